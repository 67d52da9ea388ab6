/-! the law's own callers: what the class's method answers, or the number of the exception -/
def W1 (post : Nat → Option Value → Mm → Prop) (xp : String → Mm → Prop) (E1 : String) (c1 : Int32) : Nat → Option Value → Mm → Prop := fun B v u => post B v u ∨ v = some (.int c1) ∧ xp E1 u
def W2 (post : Nat → Option Value → Mm → Prop) (xp : String → Mm → Prop) (E1 : String) (c1 : Int32) (E2 : String) (c2 : Int32) : Nat → Option Value → Mm → Prop := fun B v u => post B v u ∨ v = some (.int c1) ∧ xp E1 u ∨ v = some (.int c2) ∧ xp E2 u
/-- a truth, as 1 or 0 -/
def WT (post : Nat → Option Value → Mm → Prop) : Nat → Option Value → Mm → Prop := fun B v u => ∃ x, post B (some (.int x)) u ∧ v = some (.int (if x = 0 then 0 else 1))

abbrev rmL_setChimney : Room := { frames := 8, cells := 3, slots := 18, locals := 171 }
set_option maxHeartbeats 400000 in
set_option maxRecDepth 100000 in
theorem kL_setChimney (l : Launch) {M : Mm} (x1 : Int32) (x2 : Int32) (x3 : Int32) (x4 : Int32) (x5 : Int32) {post : Nat → Option Value → Mm → Prop} {xp : String → Mm → Prop} (hM : Cx l yX8_setChimney wsX8_setChimney rmX8_setChimney (fun B => [.ref (B + 0), .int x1, .int x2, .int x3, .int x4, .int x5]) M post xp) (hp : ∀ B v u, post B v u → ∃ x, v = some (.int x)) (hx : ∀ E u, xp E u → E = xI ∨ E = xA) : Ct l yL_setChimney wsL_setChimney rmL_setChimney (fun B => [.ref (B + 0), .int x1, .int x2, .int x3, .int x4, .int x5]) M (W2 post xp xI (-101) xA (-102)) := by
  refine Ct.ofX (own := RL) (by decide +kernel) rfl rfl (fun B => Nat.le_of_ble_eq_true rfl) ?_
  intro pp ee ss mm aa bb me c9 DD ca B Tl AA QQ F hT K
  show G pp l ee rmL_setChimney ss mm aa bb me c9 QQ DD ca B Tl AA 7 0 0 M 0 [(0, .ref (B + 0)), (1, .int x1), (2, .int x2), (3, .int x3), (4, .int x4), (5, .int x5)] []
  refine g_aload_n F dL_setChimney_0 rfl 0 rfl ?_
  refine g_iload_n F dL_setChimney_1 rfl 1 rfl ?_
  refine g_iload_n F dL_setChimney_2 rfl 2 rfl ?_
  refine g_iload_n F dL_setChimney_3 rfl 3 rfl ?_
  refine g_iload F dL_setChimney_4 4 rfl ?_
  refine g_iload F dL_setChimney_6 5 rfl ?_
  refine x_callV F hM (cwV 5 F.1.2.2.2.2 gL_setChimney_X8_setChimney rfl rfl rfl (by decide +kernel) ⟨Nat.le_of_ble_eq_true rfl, Nat.le_of_ble_eq_true rfl⟩) r0 (by decide) rfl rfl rfl rfl (Nat.le_of_ble_eq_true rfl) dL_setChimney_8 ⟨Nat.le_of_ble_eq_true rfl, Nat.le_of_ble_eq_true rfl⟩ (fun v9 u9 h9 => ?_) (fun E9 u9 x9 => ?_)
  · obtain ⟨x9, rfl⟩ := hp _ _ _ h9
    refine g_widen (k := rmL_setChimney.cells) (n := rmL_setChimney.slots) (Nat.le_of_ble_eq_true rfl) (Nat.le_of_ble_eq_true rfl) ?_
    exact K _ _ _ _ dL_setChimney_11 (Or.inl h9)
  · have hE := hx _ _ x9
    rcases hE with rfl | rfl
    · refine g_catch F [] ⟨0, 11, 12, 16⟩ [⟨0, 11, 17, 18⟩] hT (fun z hz => absurd hz List.not_mem_nil) (by decide) (by decide) (by decide +kernel) (by decide +kernel) (fun q9 => ?_)
      refine g_astore F dL_setChimney_12 (by decide) rfl ?_
      refine g_bipush F (v := -101) dL_setChimney_14 (by decide +kernel) ?_
      refine g_widen (k := rmL_setChimney.cells) (n := rmL_setChimney.slots) (Nat.le_of_ble_eq_true rfl) (Nat.le_of_ble_eq_true rfl) ?_
      exact K _ _ _ _ dL_setChimney_16 (Or.inr (Or.inl ⟨rfl, x9⟩))
    · refine g_catch F [⟨0, 11, 12, 16⟩] ⟨0, 11, 17, 18⟩ [] hT (fun z hz => by obtain rfl := List.mem_singleton.mp hz; exact Or.inr ⟨by decide, xI, by decide +kernel, F.2.2.2.1.2.2.2.2.2.2.1⟩) (by decide) (by decide) (by decide +kernel) (by decide +kernel) (fun q9 => ?_)
      refine g_astore F dL_setChimney_17 (by decide) rfl ?_
      refine g_bipush F (v := -102) dL_setChimney_19 (by decide +kernel) ?_
      refine g_widen (k := rmL_setChimney.cells) (n := rmL_setChimney.slots) (Nat.le_of_ble_eq_true rfl) (Nat.le_of_ble_eq_true rfl) ?_
      exact K _ _ _ _ dL_setChimney_21 (Or.inr (Or.inr ⟨rfl, x9⟩))

abbrev rmL_setGrey : Room := { frames := 8, cells := 1, slots := 6, locals := 168 }
set_option maxHeartbeats 400000 in
set_option maxRecDepth 100000 in
theorem kL_setGrey (l : Launch) {M : Mm} (x1 : Int32) (x2 : Int32) {post : Nat → Option Value → Mm → Prop} {xp : String → Mm → Prop} (hM : Cx l yX8_setGrey wsX8_setGrey rmX8_setGrey (fun B => [.ref (B + 0), .int x1, .int x2]) M post xp) (hp : ∀ B v u, post B v u → ∃ x, v = some (.int x)) (hx : ∀ E u, xp E u → E = xA) : Ct l yL_setGrey wsL_setGrey rmL_setGrey (fun B => [.ref (B + 0), .int x1, .int x2]) M (W1 post xp xA (-102)) := by
  refine Ct.ofX (own := RL) (by decide +kernel) rfl rfl (fun B => Nat.le_of_ble_eq_true rfl) ?_
  intro pp ee ss mm aa bb me c9 DD ca B Tl AA QQ F hT K
  show G pp l ee rmL_setGrey ss mm aa bb me c9 QQ DD ca B Tl AA 4 0 0 M 0 [(0, .ref (B + 0)), (1, .int x1), (2, .int x2)] []
  refine g_aload_n F dL_setGrey_0 rfl 0 rfl ?_
  refine g_iload_n F dL_setGrey_1 rfl 1 rfl ?_
  refine g_iload_n F dL_setGrey_2 rfl 2 rfl ?_
  refine x_callV F hM (cwV 2 F.1.2.2.2.2 gL_setGrey_X8_setGrey rfl rfl rfl (by decide +kernel) ⟨Nat.le_of_ble_eq_true rfl, Nat.le_of_ble_eq_true rfl⟩) r0 (by decide) rfl rfl rfl rfl (Nat.le_of_ble_eq_true rfl) dL_setGrey_3 ⟨Nat.le_of_ble_eq_true rfl, Nat.le_of_ble_eq_true rfl⟩ (fun v9 u9 h9 => ?_) (fun E9 u9 x9 => ?_)
  · obtain ⟨x9, rfl⟩ := hp _ _ _ h9
    refine g_widen (k := rmL_setGrey.cells) (n := rmL_setGrey.slots) (Nat.le_of_ble_eq_true rfl) (Nat.le_of_ble_eq_true rfl) ?_
    exact K _ _ _ _ dL_setGrey_6 (Or.inl h9)
  · have hE := hx _ _ x9
    obtain rfl := hE
    refine g_catch F [] ⟨0, 6, 7, 18⟩ [] hT (fun z hz => absurd hz List.not_mem_nil) (by decide) (by decide) (by decide +kernel) (by decide +kernel) (fun q9 => ?_)
    refine g_astore_n F dL_setGrey_7 rfl (by decide) rfl ?_
    refine g_bipush F (v := -102) dL_setGrey_8 (by decide +kernel) ?_
    refine g_widen (k := rmL_setGrey.cells) (n := rmL_setGrey.slots) (Nat.le_of_ble_eq_true rfl) (Nat.le_of_ble_eq_true rfl) ?_
    exact K _ _ _ _ dL_setGrey_10 (Or.inr ⟨rfl, x9⟩)

abbrev rmL_watch : Room := { frames := 8, cells := 2, slots := 12, locals := 169 }
set_option maxHeartbeats 400000 in
set_option maxRecDepth 100000 in
theorem kL_watch (l : Launch) {M : Mm} (x1 : Int32) (x2 : Int32) {post : Nat → Option Value → Mm → Prop} {xp : String → Mm → Prop} (hM : Cx l yX8_watch wsX8_watch rmX8_watch (fun B => [.ref (B + 0), .int x1, .int x2]) M post xp) (hp : ∀ B v u, post B v u → ∃ x, v = some (.int x)) (hx : ∀ E u, xp E u → E = xI ∨ E = xA) : Ct l yL_watch wsL_watch rmL_watch (fun B => [.ref (B + 0), .int x1, .int x2]) M (W2 post xp xI (-101) xA (-102)) := by
  refine Ct.ofX (own := RL) (by decide +kernel) rfl rfl (fun B => Nat.le_of_ble_eq_true rfl) ?_
  intro pp ee ss mm aa bb me c9 DD ca B Tl AA QQ F hT K
  show G pp l ee rmL_watch ss mm aa bb me c9 QQ DD ca B Tl AA 4 0 0 M 0 [(0, .ref (B + 0)), (1, .int x1), (2, .int x2)] []
  refine g_aload_n F dL_watch_0 rfl 0 rfl ?_
  refine g_iload_n F dL_watch_1 rfl 1 rfl ?_
  refine g_iload_n F dL_watch_2 rfl 2 rfl ?_
  refine x_callV F hM (cwV 2 F.1.2.2.2.2 gL_watch_X8_watch rfl rfl rfl (by decide +kernel) ⟨Nat.le_of_ble_eq_true rfl, Nat.le_of_ble_eq_true rfl⟩) r0 (by decide) rfl rfl rfl rfl (Nat.le_of_ble_eq_true rfl) dL_watch_3 ⟨Nat.le_of_ble_eq_true rfl, Nat.le_of_ble_eq_true rfl⟩ (fun v9 u9 h9 => ?_) (fun E9 u9 x9 => ?_)
  · obtain ⟨x9, rfl⟩ := hp _ _ _ h9
    refine g_widen (k := rmL_watch.cells) (n := rmL_watch.slots) (Nat.le_of_ble_eq_true rfl) (Nat.le_of_ble_eq_true rfl) ?_
    exact K _ _ _ _ dL_watch_6 (Or.inl h9)
  · have hE := hx _ _ x9
    rcases hE with rfl | rfl
    · refine g_catch F [] ⟨0, 6, 7, 16⟩ [⟨0, 6, 11, 18⟩] hT (fun z hz => absurd hz List.not_mem_nil) (by decide) (by decide) (by decide +kernel) (by decide +kernel) (fun q9 => ?_)
      refine g_astore_n F dL_watch_7 rfl (by decide) rfl ?_
      refine g_bipush F (v := -101) dL_watch_8 (by decide +kernel) ?_
      refine g_widen (k := rmL_watch.cells) (n := rmL_watch.slots) (Nat.le_of_ble_eq_true rfl) (Nat.le_of_ble_eq_true rfl) ?_
      exact K _ _ _ _ dL_watch_10 (Or.inr (Or.inl ⟨rfl, x9⟩))
    · refine g_catch F [⟨0, 6, 7, 16⟩] ⟨0, 6, 11, 18⟩ [] hT (fun z hz => by obtain rfl := List.mem_singleton.mp hz; exact Or.inr ⟨by decide, xI, by decide +kernel, F.2.2.2.1.2.2.2.2.2.2.1⟩) (by decide) (by decide) (by decide +kernel) (by decide +kernel) (fun q9 => ?_)
      refine g_astore_n F dL_watch_11 rfl (by decide) rfl ?_
      refine g_bipush F (v := -102) dL_watch_12 (by decide +kernel) ?_
      refine g_widen (k := rmL_watch.cells) (n := rmL_watch.slots) (Nat.le_of_ble_eq_true rfl) (Nat.le_of_ble_eq_true rfl) ?_
      exact K _ _ _ _ dL_watch_14 (Or.inr (Or.inr ⟨rfl, x9⟩))

abbrev rmL_setBias : Room := { frames := 8, cells := 2, slots := 12, locals := 169 }
set_option maxHeartbeats 400000 in
set_option maxRecDepth 100000 in
theorem kL_setBias (l : Launch) {M : Mm} (x1 : Int32) (x2 : Int32) {post : Nat → Option Value → Mm → Prop} {xp : String → Mm → Prop} (hM : Cx l yX8_setBias wsX8_setBias rmX8_setBias (fun B => [.ref (B + 0), .int x1, .int x2]) M post xp) (hp : ∀ B v u, post B v u → ∃ x, v = some (.int x)) (hx : ∀ E u, xp E u → E = xI ∨ E = xA) : Ct l yL_setBias wsL_setBias rmL_setBias (fun B => [.ref (B + 0), .int x1, .int x2]) M (W2 post xp xI (-101) xA (-102)) := by
  refine Ct.ofX (own := RL) (by decide +kernel) rfl rfl (fun B => Nat.le_of_ble_eq_true rfl) ?_
  intro pp ee ss mm aa bb me c9 DD ca B Tl AA QQ F hT K
  show G pp l ee rmL_setBias ss mm aa bb me c9 QQ DD ca B Tl AA 4 0 0 M 0 [(0, .ref (B + 0)), (1, .int x1), (2, .int x2)] []
  refine g_aload_n F dL_setBias_0 rfl 0 rfl ?_
  refine g_iload_n F dL_setBias_1 rfl 1 rfl ?_
  refine g_iload_n F dL_setBias_2 rfl 2 rfl ?_
  refine x_callV F hM (cwV 2 F.1.2.2.2.2 gL_setBias_X8_setBias rfl rfl rfl (by decide +kernel) ⟨Nat.le_of_ble_eq_true rfl, Nat.le_of_ble_eq_true rfl⟩) r0 (by decide) rfl rfl rfl rfl (Nat.le_of_ble_eq_true rfl) dL_setBias_3 ⟨Nat.le_of_ble_eq_true rfl, Nat.le_of_ble_eq_true rfl⟩ (fun v9 u9 h9 => ?_) (fun E9 u9 x9 => ?_)
  · obtain ⟨x9, rfl⟩ := hp _ _ _ h9
    refine g_widen (k := rmL_setBias.cells) (n := rmL_setBias.slots) (Nat.le_of_ble_eq_true rfl) (Nat.le_of_ble_eq_true rfl) ?_
    exact K _ _ _ _ dL_setBias_6 (Or.inl h9)
  · have hE := hx _ _ x9
    rcases hE with rfl | rfl
    · refine g_catch F [] ⟨0, 6, 7, 16⟩ [⟨0, 6, 11, 18⟩] hT (fun z hz => absurd hz List.not_mem_nil) (by decide) (by decide) (by decide +kernel) (by decide +kernel) (fun q9 => ?_)
      refine g_astore_n F dL_setBias_7 rfl (by decide) rfl ?_
      refine g_bipush F (v := -101) dL_setBias_8 (by decide +kernel) ?_
      refine g_widen (k := rmL_setBias.cells) (n := rmL_setBias.slots) (Nat.le_of_ble_eq_true rfl) (Nat.le_of_ble_eq_true rfl) ?_
      exact K _ _ _ _ dL_setBias_10 (Or.inr (Or.inl ⟨rfl, x9⟩))
    · refine g_catch F [⟨0, 6, 7, 16⟩] ⟨0, 6, 11, 18⟩ [] hT (fun z hz => by obtain rfl := List.mem_singleton.mp hz; exact Or.inr ⟨by decide, xI, by decide +kernel, F.2.2.2.1.2.2.2.2.2.2.1⟩) (by decide) (by decide) (by decide +kernel) (by decide +kernel) (fun q9 => ?_)
      refine g_astore_n F dL_setBias_11 rfl (by decide) rfl ?_
      refine g_bipush F (v := -102) dL_setBias_12 (by decide +kernel) ?_
      refine g_widen (k := rmL_setBias.cells) (n := rmL_setBias.slots) (Nat.le_of_ble_eq_true rfl) (Nat.le_of_ble_eq_true rfl) ?_
      exact K _ _ _ _ dL_setBias_14 (Or.inr (Or.inr ⟨rfl, x9⟩))

abbrev rmL_setLimit : Room := { frames := 8, cells := 1, slots := 6, locals := 168 }
set_option maxHeartbeats 400000 in
set_option maxRecDepth 100000 in
theorem kL_setLimit (l : Launch) {M : Mm} (x1 : Int32) (x2 : Int32) {post : Nat → Option Value → Mm → Prop} {xp : String → Mm → Prop} (hM : Cx l yX8_setLimit wsX8_setLimit rmX8_setLimit (fun B => [.ref (B + 0), .int x1, .int x2]) M post xp) (hp : ∀ B v u, post B v u → ∃ x, v = some (.int x)) (hx : ∀ E u, xp E u → E = xA) : Ct l yL_setLimit wsL_setLimit rmL_setLimit (fun B => [.ref (B + 0), .int x1, .int x2]) M (W1 post xp xA (-102)) := by
  refine Ct.ofX (own := RL) (by decide +kernel) rfl rfl (fun B => Nat.le_of_ble_eq_true rfl) ?_
  intro pp ee ss mm aa bb me c9 DD ca B Tl AA QQ F hT K
  show G pp l ee rmL_setLimit ss mm aa bb me c9 QQ DD ca B Tl AA 4 0 0 M 0 [(0, .ref (B + 0)), (1, .int x1), (2, .int x2)] []
  refine g_aload_n F dL_setLimit_0 rfl 0 rfl ?_
  refine g_iload_n F dL_setLimit_1 rfl 1 rfl ?_
  refine g_iload_n F dL_setLimit_2 rfl 2 rfl ?_
  refine x_callV F hM (cwV 2 F.1.2.2.2.2 gL_setLimit_X8_setLimit rfl rfl rfl (by decide +kernel) ⟨Nat.le_of_ble_eq_true rfl, Nat.le_of_ble_eq_true rfl⟩) r0 (by decide) rfl rfl rfl rfl (Nat.le_of_ble_eq_true rfl) dL_setLimit_3 ⟨Nat.le_of_ble_eq_true rfl, Nat.le_of_ble_eq_true rfl⟩ (fun v9 u9 h9 => ?_) (fun E9 u9 x9 => ?_)
  · obtain ⟨x9, rfl⟩ := hp _ _ _ h9
    refine g_widen (k := rmL_setLimit.cells) (n := rmL_setLimit.slots) (Nat.le_of_ble_eq_true rfl) (Nat.le_of_ble_eq_true rfl) ?_
    exact K _ _ _ _ dL_setLimit_6 (Or.inl h9)
  · have hE := hx _ _ x9
    obtain rfl := hE
    refine g_catch F [] ⟨0, 6, 7, 18⟩ [] hT (fun z hz => absurd hz List.not_mem_nil) (by decide) (by decide) (by decide +kernel) (by decide +kernel) (fun q9 => ?_)
    refine g_astore_n F dL_setLimit_7 rfl (by decide) rfl ?_
    refine g_bipush F (v := -102) dL_setLimit_8 (by decide +kernel) ?_
    refine g_widen (k := rmL_setLimit.cells) (n := rmL_setLimit.slots) (Nat.le_of_ble_eq_true rfl) (Nat.le_of_ble_eq_true rfl) ?_
    exact K _ _ _ _ dL_setLimit_10 (Or.inr ⟨rfl, x9⟩)

abbrev rmL_pass : Room := { frames := 8, cells := 1, slots := 6, locals := 166 }
set_option maxHeartbeats 400000 in
set_option maxRecDepth 100000 in
theorem kL_pass (l : Launch) {M : Mm} (x1 : Int32) {post : Nat → Option Value → Mm → Prop} {xp : String → Mm → Prop} (hM : Cx l yX8_pass wsX8_pass rmX8_pass (fun B => [.ref (B + 0), .int x1]) M post xp) (hp : ∀ B v u, post B v u → ∃ x, v = some (.int x)) (hx : ∀ E u, xp E u → E = xA) : Ct l yL_pass wsL_pass rmL_pass (fun B => [.ref (B + 0), .int x1]) M (W1 post xp xA (-102)) := by
  refine Ct.ofX (own := RL) (by decide +kernel) rfl rfl (fun B => Nat.le_of_ble_eq_true rfl) ?_
  intro pp ee ss mm aa bb me c9 DD ca B Tl AA QQ F hT K
  show G pp l ee rmL_pass ss mm aa bb me c9 QQ DD ca B Tl AA 3 0 0 M 0 [(0, .ref (B + 0)), (1, .int x1)] []
  refine g_aload_n F dL_pass_0 rfl 0 rfl ?_
  refine g_iload_n F dL_pass_1 rfl 1 rfl ?_
  refine x_callV F hM (cwV 1 F.1.2.2.2.2 gL_pass_X8_pass rfl rfl rfl (by decide +kernel) ⟨Nat.le_of_ble_eq_true rfl, Nat.le_of_ble_eq_true rfl⟩) r0 (by decide) rfl rfl rfl rfl (Nat.le_of_ble_eq_true rfl) dL_pass_2 ⟨Nat.le_of_ble_eq_true rfl, Nat.le_of_ble_eq_true rfl⟩ (fun v9 u9 h9 => ?_) (fun E9 u9 x9 => ?_)
  · obtain ⟨x9, rfl⟩ := hp _ _ _ h9
    refine g_widen (k := rmL_pass.cells) (n := rmL_pass.slots) (Nat.le_of_ble_eq_true rfl) (Nat.le_of_ble_eq_true rfl) ?_
    exact K _ _ _ _ dL_pass_5 (Or.inl h9)
  · have hE := hx _ _ x9
    obtain rfl := hE
    refine g_catch F [] ⟨0, 5, 6, 18⟩ [] hT (fun z hz => absurd hz List.not_mem_nil) (by decide) (by decide) (by decide +kernel) (by decide +kernel) (fun q9 => ?_)
    refine g_astore_n F dL_pass_6 rfl (by decide) rfl ?_
    refine g_bipush F (v := -102) dL_pass_7 (by decide +kernel) ?_
    refine g_widen (k := rmL_pass.cells) (n := rmL_pass.slots) (Nat.le_of_ble_eq_true rfl) (Nat.le_of_ble_eq_true rfl) ?_
    exact K _ _ _ _ dL_pass_9 (Or.inr ⟨rfl, x9⟩)

abbrev rmL_appeal : Room := { frames := 8, cells := 2, slots := 12, locals := 167 }
set_option maxHeartbeats 400000 in
set_option maxRecDepth 100000 in
theorem kL_appeal (l : Launch) {M : Mm} (x1 : Int32) {post : Nat → Option Value → Mm → Prop} {xp : String → Mm → Prop} (hM : Cx l yX8_appeal wsX8_appeal rmX8_appeal (fun B => [.ref (B + 0), .int x1]) M post xp) (hp : ∀ B v u, post B v u → ∃ x, v = some (.int x)) (hx : ∀ E u, xp E u → E = xI ∨ E = xS) : Ct l yL_appeal wsL_appeal rmL_appeal (fun B => [.ref (B + 0), .int x1]) M (W2 (WT post) xp xI (-101) xS (-103)) := by
  refine Ct.ofX (own := RL) (by decide +kernel) rfl rfl (fun B => Nat.le_of_ble_eq_true rfl) ?_
  intro pp ee ss mm aa bb me c9 DD ca B Tl AA QQ F hT K
  show G pp l ee rmL_appeal ss mm aa bb me c9 QQ DD ca B Tl AA 3 0 0 M 0 [(0, .ref (B + 0)), (1, .int x1)] []
  refine g_aload_n F dL_appeal_0 rfl 0 rfl ?_
  refine g_iload_n F dL_appeal_1 rfl 1 rfl ?_
  refine x_callV F hM (cwV 1 F.1.2.2.2.2 gL_appeal_X8_appeal rfl rfl rfl (by decide +kernel) ⟨Nat.le_of_ble_eq_true rfl, Nat.le_of_ble_eq_true rfl⟩) r0 (by decide) rfl rfl rfl rfl (Nat.le_of_ble_eq_true rfl) dL_appeal_2 ⟨Nat.le_of_ble_eq_true rfl, Nat.le_of_ble_eq_true rfl⟩ (fun v9 u9 h9 => ?_) (fun E9 u9 x9 => ?_)
  · obtain ⟨x9, rfl⟩ := hp _ _ _ h9
    refine g_if_eq F 12 dL_appeal_5 (by decide) (fun h1 => ?_) (fun h1 => ?_)
    · refine g_iconst F (v := 0) dL_appeal_12 (by decide) ?_
      refine g_widen (k := rmL_appeal.cells) (n := rmL_appeal.slots) (Nat.le_of_ble_eq_true rfl) (Nat.le_of_ble_eq_true rfl) ?_
      exact K _ _ _ _ dL_appeal_13 (Or.inl ⟨x9, h9, by rw [if_pos h1]⟩)
    · refine g_iconst F (v := 1) dL_appeal_8 (by decide) ?_
      refine g_goto F 13 dL_appeal_9 (by decide) ?_
      refine g_widen (k := rmL_appeal.cells) (n := rmL_appeal.slots) (Nat.le_of_ble_eq_true rfl) (Nat.le_of_ble_eq_true rfl) ?_
      exact K _ _ _ _ dL_appeal_13 (Or.inl ⟨x9, h9, by rw [if_neg h1]⟩)
  · have hE := hx _ _ x9
    rcases hE with rfl | rfl
    · refine g_catch F [] ⟨0, 13, 14, 16⟩ [⟨0, 13, 18, 41⟩] hT (fun z hz => absurd hz List.not_mem_nil) (by decide) (by decide) (by decide +kernel) (by decide +kernel) (fun q9 => ?_)
      refine g_astore_n F dL_appeal_14 rfl (by decide) rfl ?_
      refine g_bipush F (v := -101) dL_appeal_15 (by decide +kernel) ?_
      refine g_widen (k := rmL_appeal.cells) (n := rmL_appeal.slots) (Nat.le_of_ble_eq_true rfl) (Nat.le_of_ble_eq_true rfl) ?_
      exact K _ _ _ _ dL_appeal_17 (Or.inr (Or.inl ⟨rfl, x9⟩))
    · refine g_catch F [⟨0, 13, 14, 16⟩] ⟨0, 13, 18, 41⟩ [] hT (fun z hz => by obtain rfl := List.mem_singleton.mp hz; exact Or.inr ⟨by decide, xI, by decide +kernel, F.2.2.2.1.2.2.2.2.2.2.2.1⟩) (by decide) (by decide) (by decide +kernel) (by decide +kernel) (fun q9 => ?_)
      refine g_astore_n F dL_appeal_18 rfl (by decide) rfl ?_
      refine g_bipush F (v := -103) dL_appeal_19 (by decide +kernel) ?_
      refine g_widen (k := rmL_appeal.cells) (n := rmL_appeal.slots) (Nat.le_of_ble_eq_true rfl) (Nat.le_of_ble_eq_true rfl) ?_
      exact K _ _ _ _ dL_appeal_21 (Or.inr (Or.inr ⟨rfl, x9⟩))

abbrev rmL_shadeOf : Room := { frames := 8, cells := 2, slots := 12, locals := 134 }
set_option maxHeartbeats 400000 in
set_option maxRecDepth 100000 in
theorem kL_shadeOf (l : Launch) {M : Mm} (x1 : Int32) (x2 : Int32) {post : Nat → Option Value → Mm → Prop} {xp : String → Mm → Prop} (hM : Cx l yX8_shadeOf wsX8_shadeOf rmX8_shadeOf (fun B => [.ref (B + 0), .int x1, .int x2]) M post xp) (hp : ∀ B v u, post B v u → ∃ x, v = some (.int x)) (hx : ∀ E u, xp E u → E = xI ∨ E = xA) : Ct l yL_shadeOf wsL_shadeOf rmL_shadeOf (fun B => [.ref (B + 0), .int x1, .int x2]) M (W2 post xp xI (-101) xA (-102)) := by
  refine Ct.ofX (own := RL) (by decide +kernel) rfl rfl (fun B => Nat.le_of_ble_eq_true rfl) ?_
  intro pp ee ss mm aa bb me c9 DD ca B Tl AA QQ F hT K
  show G pp l ee rmL_shadeOf ss mm aa bb me c9 QQ DD ca B Tl AA 4 0 0 M 0 [(0, .ref (B + 0)), (1, .int x1), (2, .int x2)] []
  refine g_aload_n F dL_shadeOf_0 rfl 0 rfl ?_
  refine g_iload_n F dL_shadeOf_1 rfl 1 rfl ?_
  refine g_iload_n F dL_shadeOf_2 rfl 2 rfl ?_
  refine x_callV F hM (cwV 2 F.1.2.2.2.2 gL_shadeOf_X8_shadeOf rfl rfl rfl (by decide +kernel) ⟨Nat.le_of_ble_eq_true rfl, Nat.le_of_ble_eq_true rfl⟩) r0 (by decide) rfl rfl rfl rfl (Nat.le_of_ble_eq_true rfl) dL_shadeOf_3 ⟨Nat.le_of_ble_eq_true rfl, Nat.le_of_ble_eq_true rfl⟩ (fun v9 u9 h9 => ?_) (fun E9 u9 x9 => ?_)
  · obtain ⟨x9, rfl⟩ := hp _ _ _ h9
    refine g_widen (k := rmL_shadeOf.cells) (n := rmL_shadeOf.slots) (Nat.le_of_ble_eq_true rfl) (Nat.le_of_ble_eq_true rfl) ?_
    exact K _ _ _ _ dL_shadeOf_6 (Or.inl h9)
  · have hE := hx _ _ x9
    rcases hE with rfl | rfl
    · refine g_catch F [] ⟨0, 6, 7, 16⟩ [⟨0, 6, 11, 18⟩] hT (fun z hz => absurd hz List.not_mem_nil) (by decide) (by decide) (by decide +kernel) (by decide +kernel) (fun q9 => ?_)
      refine g_astore_n F dL_shadeOf_7 rfl (by decide) rfl ?_
      refine g_bipush F (v := -101) dL_shadeOf_8 (by decide +kernel) ?_
      refine g_widen (k := rmL_shadeOf.cells) (n := rmL_shadeOf.slots) (Nat.le_of_ble_eq_true rfl) (Nat.le_of_ble_eq_true rfl) ?_
      exact K _ _ _ _ dL_shadeOf_10 (Or.inr (Or.inl ⟨rfl, x9⟩))
    · refine g_catch F [⟨0, 6, 7, 16⟩] ⟨0, 6, 11, 18⟩ [] hT (fun z hz => by obtain rfl := List.mem_singleton.mp hz; exact Or.inr ⟨by decide, xI, by decide +kernel, F.2.2.2.1.2.2.2.2.2.2.1⟩) (by decide) (by decide) (by decide +kernel) (by decide +kernel) (fun q9 => ?_)
      refine g_astore_n F dL_shadeOf_11 rfl (by decide) rfl ?_
      refine g_bipush F (v := -102) dL_shadeOf_12 (by decide +kernel) ?_
      refine g_widen (k := rmL_shadeOf.cells) (n := rmL_shadeOf.slots) (Nat.le_of_ble_eq_true rfl) (Nat.le_of_ble_eq_true rfl) ?_
      exact K _ _ _ _ dL_shadeOf_14 (Or.inr (Or.inr ⟨rfl, x9⟩))

abbrev rmL_nextStoking : Room := { frames := 8, cells := 2, slots := 12, locals := 134 }
set_option maxHeartbeats 400000 in
set_option maxRecDepth 100000 in
theorem kL_nextStoking (l : Launch) {M : Mm} (x1 : Int32) (x2 : Int32) {post : Nat → Option Value → Mm → Prop} {xp : String → Mm → Prop} (hM : Cx l yX8_nextStoking wsX8_nextStoking rmX8_nextStoking (fun B => [.ref (B + 0), .int x1, .int x2]) M post xp) (hp : ∀ B v u, post B v u → ∃ x, v = some (.int x)) (hx : ∀ E u, xp E u → E = xI ∨ E = xA) : Ct l yL_nextStoking wsL_nextStoking rmL_nextStoking (fun B => [.ref (B + 0), .int x1, .int x2]) M (W2 post xp xI (-101) xA (-102)) := by
  refine Ct.ofX (own := RL) (by decide +kernel) rfl rfl (fun B => Nat.le_of_ble_eq_true rfl) ?_
  intro pp ee ss mm aa bb me c9 DD ca B Tl AA QQ F hT K
  show G pp l ee rmL_nextStoking ss mm aa bb me c9 QQ DD ca B Tl AA 4 0 0 M 0 [(0, .ref (B + 0)), (1, .int x1), (2, .int x2)] []
  refine g_aload_n F dL_nextStoking_0 rfl 0 rfl ?_
  refine g_iload_n F dL_nextStoking_1 rfl 1 rfl ?_
  refine g_iload_n F dL_nextStoking_2 rfl 2 rfl ?_
  refine x_callV F hM (cwV 2 F.1.2.2.2.2 gL_nextStoking_X8_nextStoking rfl rfl rfl (by decide +kernel) ⟨Nat.le_of_ble_eq_true rfl, Nat.le_of_ble_eq_true rfl⟩) r0 (by decide) rfl rfl rfl rfl (Nat.le_of_ble_eq_true rfl) dL_nextStoking_3 ⟨Nat.le_of_ble_eq_true rfl, Nat.le_of_ble_eq_true rfl⟩ (fun v9 u9 h9 => ?_) (fun E9 u9 x9 => ?_)
  · obtain ⟨x9, rfl⟩ := hp _ _ _ h9
    refine g_widen (k := rmL_nextStoking.cells) (n := rmL_nextStoking.slots) (Nat.le_of_ble_eq_true rfl) (Nat.le_of_ble_eq_true rfl) ?_
    exact K _ _ _ _ dL_nextStoking_6 (Or.inl h9)
  · have hE := hx _ _ x9
    rcases hE with rfl | rfl
    · refine g_catch F [] ⟨0, 6, 7, 16⟩ [⟨0, 6, 11, 18⟩] hT (fun z hz => absurd hz List.not_mem_nil) (by decide) (by decide) (by decide +kernel) (by decide +kernel) (fun q9 => ?_)
      refine g_astore_n F dL_nextStoking_7 rfl (by decide) rfl ?_
      refine g_bipush F (v := -101) dL_nextStoking_8 (by decide +kernel) ?_
      refine g_widen (k := rmL_nextStoking.cells) (n := rmL_nextStoking.slots) (Nat.le_of_ble_eq_true rfl) (Nat.le_of_ble_eq_true rfl) ?_
      exact K _ _ _ _ dL_nextStoking_10 (Or.inr (Or.inl ⟨rfl, x9⟩))
    · refine g_catch F [⟨0, 6, 7, 16⟩] ⟨0, 6, 11, 18⟩ [] hT (fun z hz => by obtain rfl := List.mem_singleton.mp hz; exact Or.inr ⟨by decide, xI, by decide +kernel, F.2.2.2.1.2.2.2.2.2.2.1⟩) (by decide) (by decide) (by decide +kernel) (by decide +kernel) (fun q9 => ?_)
      refine g_astore_n F dL_nextStoking_11 rfl (by decide) rfl ?_
      refine g_bipush F (v := -102) dL_nextStoking_12 (by decide +kernel) ?_
      refine g_widen (k := rmL_nextStoking.cells) (n := rmL_nextStoking.slots) (Nat.le_of_ble_eq_true rfl) (Nat.le_of_ble_eq_true rfl) ?_
      exact K _ _ _ _ dL_nextStoking_14 (Or.inr (Or.inr ⟨rfl, x9⟩))

abbrev rmL_smoke : Room := { frames := 8, cells := 2, slots := 12, locals := 136 }
set_option maxHeartbeats 400000 in
set_option maxRecDepth 100000 in
theorem kL_smoke (l : Launch) {M : Mm} (x1 : Int32) (x2 : Int32) (x3 : Int32) (x4 : Int32) {post : Nat → Option Value → Mm → Prop} {xp : String → Mm → Prop} (hM : Cx l yX8_smoke wsX8_smoke rmX8_smoke (fun B => [.ref (B + 0), .int x1, .int x2, .int x3, .int x4]) M post xp) (hp : ∀ B v u, post B v u → ∃ x, v = some (.int x)) (hx : ∀ E u, xp E u → E = xI ∨ E = xA) : Ct l yL_smoke wsL_smoke rmL_smoke (fun B => [.ref (B + 0), .int x1, .int x2, .int x3, .int x4]) M (W2 post xp xI (-101) xA (-102)) := by
  refine Ct.ofX (own := RL) (by decide +kernel) rfl rfl (fun B => Nat.le_of_ble_eq_true rfl) ?_
  intro pp ee ss mm aa bb me c9 DD ca B Tl AA QQ F hT K
  show G pp l ee rmL_smoke ss mm aa bb me c9 QQ DD ca B Tl AA 6 0 0 M 0 [(0, .ref (B + 0)), (1, .int x1), (2, .int x2), (3, .int x3), (4, .int x4)] []
  refine g_aload_n F dL_smoke_0 rfl 0 rfl ?_
  refine g_iload_n F dL_smoke_1 rfl 1 rfl ?_
  refine g_iload_n F dL_smoke_2 rfl 2 rfl ?_
  refine g_iload_n F dL_smoke_3 rfl 3 rfl ?_
  refine g_iload F dL_smoke_4 4 rfl ?_
  refine x_callV F hM (cwV 4 F.1.2.2.2.2 gL_smoke_X8_smoke rfl rfl rfl (by decide +kernel) ⟨Nat.le_of_ble_eq_true rfl, Nat.le_of_ble_eq_true rfl⟩) r0 (by decide) rfl rfl rfl rfl (Nat.le_of_ble_eq_true rfl) dL_smoke_6 ⟨Nat.le_of_ble_eq_true rfl, Nat.le_of_ble_eq_true rfl⟩ (fun v9 u9 h9 => ?_) (fun E9 u9 x9 => ?_)
  · obtain ⟨x9, rfl⟩ := hp _ _ _ h9
    refine g_widen (k := rmL_smoke.cells) (n := rmL_smoke.slots) (Nat.le_of_ble_eq_true rfl) (Nat.le_of_ble_eq_true rfl) ?_
    exact K _ _ _ _ dL_smoke_9 (Or.inl h9)
  · have hE := hx _ _ x9
    rcases hE with rfl | rfl
    · refine g_catch F [] ⟨0, 9, 10, 16⟩ [⟨0, 9, 15, 18⟩] hT (fun z hz => absurd hz List.not_mem_nil) (by decide) (by decide) (by decide +kernel) (by decide +kernel) (fun q9 => ?_)
      refine g_astore F dL_smoke_10 (by decide) rfl ?_
      refine g_bipush F (v := -101) dL_smoke_12 (by decide +kernel) ?_
      refine g_widen (k := rmL_smoke.cells) (n := rmL_smoke.slots) (Nat.le_of_ble_eq_true rfl) (Nat.le_of_ble_eq_true rfl) ?_
      exact K _ _ _ _ dL_smoke_14 (Or.inr (Or.inl ⟨rfl, x9⟩))
    · refine g_catch F [⟨0, 9, 10, 16⟩] ⟨0, 9, 15, 18⟩ [] hT (fun z hz => by obtain rfl := List.mem_singleton.mp hz; exact Or.inr ⟨by decide, xI, by decide +kernel, F.2.2.2.1.2.2.2.2.2.2.1⟩) (by decide) (by decide) (by decide +kernel) (by decide +kernel) (fun q9 => ?_)
      refine g_astore F dL_smoke_15 (by decide) rfl ?_
      refine g_bipush F (v := -102) dL_smoke_17 (by decide +kernel) ?_
      refine g_widen (k := rmL_smoke.cells) (n := rmL_smoke.slots) (Nat.le_of_ble_eq_true rfl) (Nat.le_of_ble_eq_true rfl) ?_
      exact K _ _ _ _ dL_smoke_19 (Or.inr (Or.inr ⟨rfl, x9⟩))

abbrev rmL_greyOf : Room := { frames := 8, cells := 1, slots := 6, locals := 131 }
set_option maxHeartbeats 400000 in
set_option maxRecDepth 100000 in
theorem kL_greyOf (l : Launch) {M : Mm} (x1 : Int32) {post : Nat → Option Value → Mm → Prop} {xp : String → Mm → Prop} (hM : Cx l yX8_greyOf wsX8_greyOf rmX8_greyOf (fun B => [.ref (B + 0), .int x1]) M post xp) (hp : ∀ B v u, post B v u → ∃ x, v = some (.int x)) (hx : ∀ E u, xp E u → E = xA) : Ct l yL_greyOf wsL_greyOf rmL_greyOf (fun B => [.ref (B + 0), .int x1]) M (W1 post xp xA (-102)) := by
  refine Ct.ofX (own := RL) (by decide +kernel) rfl rfl (fun B => Nat.le_of_ble_eq_true rfl) ?_
  intro pp ee ss mm aa bb me c9 DD ca B Tl AA QQ F hT K
  show G pp l ee rmL_greyOf ss mm aa bb me c9 QQ DD ca B Tl AA 3 0 0 M 0 [(0, .ref (B + 0)), (1, .int x1)] []
  refine g_aload_n F dL_greyOf_0 rfl 0 rfl ?_
  refine g_iload_n F dL_greyOf_1 rfl 1 rfl ?_
  refine x_callV F hM (cwV 1 F.1.2.2.2.2 gL_greyOf_X8_greyOf rfl rfl rfl (by decide +kernel) ⟨Nat.le_of_ble_eq_true rfl, Nat.le_of_ble_eq_true rfl⟩) r0 (by decide) rfl rfl rfl rfl (Nat.le_of_ble_eq_true rfl) dL_greyOf_2 ⟨Nat.le_of_ble_eq_true rfl, Nat.le_of_ble_eq_true rfl⟩ (fun v9 u9 h9 => ?_) (fun E9 u9 x9 => ?_)
  · obtain ⟨x9, rfl⟩ := hp _ _ _ h9
    refine g_widen (k := rmL_greyOf.cells) (n := rmL_greyOf.slots) (Nat.le_of_ble_eq_true rfl) (Nat.le_of_ble_eq_true rfl) ?_
    exact K _ _ _ _ dL_greyOf_5 (Or.inl h9)
  · have hE := hx _ _ x9
    obtain rfl := hE
    refine g_catch F [] ⟨0, 5, 6, 18⟩ [] hT (fun z hz => absurd hz List.not_mem_nil) (by decide) (by decide) (by decide +kernel) (by decide +kernel) (fun q9 => ?_)
    refine g_astore_n F dL_greyOf_6 rfl (by decide) rfl ?_
    refine g_bipush F (v := -102) dL_greyOf_7 (by decide +kernel) ?_
    refine g_widen (k := rmL_greyOf.cells) (n := rmL_greyOf.slots) (Nat.le_of_ble_eq_true rfl) (Nat.le_of_ble_eq_true rfl) ?_
    exact K _ _ _ _ dL_greyOf_9 (Or.inr ⟨rfl, x9⟩)

abbrev rmL_watchedBy : Room := { frames := 8, cells := 1, slots := 6, locals := 132 }
set_option maxHeartbeats 400000 in
set_option maxRecDepth 100000 in
theorem kL_watchedBy (l : Launch) {M : Mm} (x1 : Int32) {post : Nat → Option Value → Mm → Prop} {xp : String → Mm → Prop} (hM : Cx l yX8_watchedBy wsX8_watchedBy rmX8_watchedBy (fun B => [.ref (B + 0), .int x1]) M post xp) (hp : ∀ B v u, post B v u → ∃ x, v = some (.int x)) (hx : ∀ E u, xp E u → E = xI) : Ct l yL_watchedBy wsL_watchedBy rmL_watchedBy (fun B => [.ref (B + 0), .int x1]) M (W1 post xp xI (-101)) := by
  refine Ct.ofX (own := RL) (by decide +kernel) rfl rfl (fun B => Nat.le_of_ble_eq_true rfl) ?_
  intro pp ee ss mm aa bb me c9 DD ca B Tl AA QQ F hT K
  show G pp l ee rmL_watchedBy ss mm aa bb me c9 QQ DD ca B Tl AA 3 0 0 M 0 [(0, .ref (B + 0)), (1, .int x1)] []
  refine g_aload_n F dL_watchedBy_0 rfl 0 rfl ?_
  refine g_iload_n F dL_watchedBy_1 rfl 1 rfl ?_
  refine x_callV F hM (cwV 1 F.1.2.2.2.2 gL_watchedBy_X8_watchedBy rfl rfl rfl (by decide +kernel) ⟨Nat.le_of_ble_eq_true rfl, Nat.le_of_ble_eq_true rfl⟩) r0 (by decide) rfl rfl rfl rfl (Nat.le_of_ble_eq_true rfl) dL_watchedBy_2 ⟨Nat.le_of_ble_eq_true rfl, Nat.le_of_ble_eq_true rfl⟩ (fun v9 u9 h9 => ?_) (fun E9 u9 x9 => ?_)
  · obtain ⟨x9, rfl⟩ := hp _ _ _ h9
    refine g_widen (k := rmL_watchedBy.cells) (n := rmL_watchedBy.slots) (Nat.le_of_ble_eq_true rfl) (Nat.le_of_ble_eq_true rfl) ?_
    exact K _ _ _ _ dL_watchedBy_5 (Or.inl h9)
  · have hE := hx _ _ x9
    obtain rfl := hE
    refine g_catch F [] ⟨0, 5, 6, 16⟩ [] hT (fun z hz => absurd hz List.not_mem_nil) (by decide) (by decide) (by decide +kernel) (by decide +kernel) (fun q9 => ?_)
    refine g_astore_n F dL_watchedBy_6 rfl (by decide) rfl ?_
    refine g_bipush F (v := -101) dL_watchedBy_7 (by decide +kernel) ?_
    refine g_widen (k := rmL_watchedBy.cells) (n := rmL_watchedBy.slots) (Nat.le_of_ble_eq_true rfl) (Nat.le_of_ble_eq_true rfl) ?_
    exact K _ _ _ _ dL_watchedBy_9 (Or.inr ⟨rfl, x9⟩)

abbrev rmL_tirednessOf : Room := { frames := 8, cells := 1, slots := 6, locals := 132 }
set_option maxHeartbeats 400000 in
set_option maxRecDepth 100000 in
theorem kL_tirednessOf (l : Launch) {M : Mm} (x1 : Int32) {post : Nat → Option Value → Mm → Prop} {xp : String → Mm → Prop} (hM : Cx l yX8_tirednessOf wsX8_tirednessOf rmX8_tirednessOf (fun B => [.ref (B + 0), .int x1]) M post xp) (hp : ∀ B v u, post B v u → ∃ x, v = some (.int x)) (hx : ∀ E u, xp E u → E = xI) : Ct l yL_tirednessOf wsL_tirednessOf rmL_tirednessOf (fun B => [.ref (B + 0), .int x1]) M (W1 post xp xI (-101)) := by
  refine Ct.ofX (own := RL) (by decide +kernel) rfl rfl (fun B => Nat.le_of_ble_eq_true rfl) ?_
  intro pp ee ss mm aa bb me c9 DD ca B Tl AA QQ F hT K
  show G pp l ee rmL_tirednessOf ss mm aa bb me c9 QQ DD ca B Tl AA 3 0 0 M 0 [(0, .ref (B + 0)), (1, .int x1)] []
  refine g_aload_n F dL_tirednessOf_0 rfl 0 rfl ?_
  refine g_iload_n F dL_tirednessOf_1 rfl 1 rfl ?_
  refine x_callV F hM (cwV 1 F.1.2.2.2.2 gL_tirednessOf_X8_tirednessOf rfl rfl rfl (by decide +kernel) ⟨Nat.le_of_ble_eq_true rfl, Nat.le_of_ble_eq_true rfl⟩) r0 (by decide) rfl rfl rfl rfl (Nat.le_of_ble_eq_true rfl) dL_tirednessOf_2 ⟨Nat.le_of_ble_eq_true rfl, Nat.le_of_ble_eq_true rfl⟩ (fun v9 u9 h9 => ?_) (fun E9 u9 x9 => ?_)
  · obtain ⟨x9, rfl⟩ := hp _ _ _ h9
    refine g_widen (k := rmL_tirednessOf.cells) (n := rmL_tirednessOf.slots) (Nat.le_of_ble_eq_true rfl) (Nat.le_of_ble_eq_true rfl) ?_
    exact K _ _ _ _ dL_tirednessOf_5 (Or.inl h9)
  · have hE := hx _ _ x9
    obtain rfl := hE
    refine g_catch F [] ⟨0, 5, 6, 16⟩ [] hT (fun z hz => absurd hz List.not_mem_nil) (by decide) (by decide) (by decide +kernel) (by decide +kernel) (fun q9 => ?_)
    refine g_astore_n F dL_tirednessOf_6 rfl (by decide) rfl ?_
    refine g_bipush F (v := -101) dL_tirednessOf_7 (by decide +kernel) ?_
    refine g_widen (k := rmL_tirednessOf.cells) (n := rmL_tirednessOf.slots) (Nat.le_of_ble_eq_true rfl) (Nat.le_of_ble_eq_true rfl) ?_
    exact K _ _ _ _ dL_tirednessOf_9 (Or.inr ⟨rfl, x9⟩)

abbrev rmL_wouldRead : Room := { frames := 8, cells := 2, slots := 12, locals := 135 }
set_option maxHeartbeats 400000 in
set_option maxRecDepth 100000 in
theorem kL_wouldRead (l : Launch) {M : Mm} (x1 : Int32) (x2 : Int32) {post : Nat → Option Value → Mm → Prop} {xp : String → Mm → Prop} (hM : Cx l yX8_wouldRead wsX8_wouldRead rmX8_wouldRead (fun B => [.ref (B + 0), .int x1, .int x2]) M post xp) (hp : ∀ B v u, post B v u → ∃ x, v = some (.int x)) (hx : ∀ E u, xp E u → E = xI) : Ct l yL_wouldRead wsL_wouldRead rmL_wouldRead (fun B => [.ref (B + 0), .int x1, .int x2]) M (W1 post xp xI (-101)) := by
  refine Ct.ofX (own := RL) (by decide +kernel) rfl rfl (fun B => Nat.le_of_ble_eq_true rfl) ?_
  intro pp ee ss mm aa bb me c9 DD ca B Tl AA QQ F hT K
  show G pp l ee rmL_wouldRead ss mm aa bb me c9 QQ DD ca B Tl AA 4 0 0 M 0 [(0, .ref (B + 0)), (1, .int x1), (2, .int x2)] []
  refine g_aload_n F dL_wouldRead_0 rfl 0 rfl ?_
  refine g_iload_n F dL_wouldRead_1 rfl 1 rfl ?_
  refine g_iload_n F dL_wouldRead_2 rfl 2 rfl ?_
  refine x_callV F hM (cwV 2 F.1.2.2.2.2 gL_wouldRead_X8_wouldRead rfl rfl rfl (by decide +kernel) ⟨Nat.le_of_ble_eq_true rfl, Nat.le_of_ble_eq_true rfl⟩) r0 (by decide) rfl rfl rfl rfl (Nat.le_of_ble_eq_true rfl) dL_wouldRead_3 ⟨Nat.le_of_ble_eq_true rfl, Nat.le_of_ble_eq_true rfl⟩ (fun v9 u9 h9 => ?_) (fun E9 u9 x9 => ?_)
  · obtain ⟨x9, rfl⟩ := hp _ _ _ h9
    refine g_widen (k := rmL_wouldRead.cells) (n := rmL_wouldRead.slots) (Nat.le_of_ble_eq_true rfl) (Nat.le_of_ble_eq_true rfl) ?_
    exact K _ _ _ _ dL_wouldRead_6 (Or.inl h9)
  · have hE := hx _ _ x9
    obtain rfl := hE
    refine g_catch F [] ⟨0, 6, 7, 16⟩ [] hT (fun z hz => absurd hz List.not_mem_nil) (by decide) (by decide) (by decide +kernel) (by decide +kernel) (fun q9 => ?_)
    refine g_astore_n F dL_wouldRead_7 rfl (by decide) rfl ?_
    refine g_bipush F (v := -101) dL_wouldRead_8 (by decide +kernel) ?_
    refine g_widen (k := rmL_wouldRead.cells) (n := rmL_wouldRead.slots) (Nat.le_of_ble_eq_true rfl) (Nat.le_of_ble_eq_true rfl) ?_
    exact K _ _ _ _ dL_wouldRead_10 (Or.inr ⟨rfl, x9⟩)

abbrev rmL_readingOf : Room := { frames := 8, cells := 2, slots := 12, locals := 134 }
set_option maxHeartbeats 400000 in
set_option maxRecDepth 100000 in
theorem kL_readingOf (l : Launch) {M : Mm} (x1 : Int32) (x2 : Int32) {post : Nat → Option Value → Mm → Prop} {xp : String → Mm → Prop} (hM : Cx l yX8_readingOf wsX8_readingOf rmX8_readingOf (fun B => [.ref (B + 0), .int x1, .int x2]) M post xp) (hp : ∀ B v u, post B v u → ∃ x, v = some (.int x)) (hx : ∀ E u, xp E u → E = xI ∨ E = xA) : Ct l yL_readingOf wsL_readingOf rmL_readingOf (fun B => [.ref (B + 0), .int x1, .int x2]) M (W2 post xp xI (-101) xA (-102)) := by
  refine Ct.ofX (own := RL) (by decide +kernel) rfl rfl (fun B => Nat.le_of_ble_eq_true rfl) ?_
  intro pp ee ss mm aa bb me c9 DD ca B Tl AA QQ F hT K
  show G pp l ee rmL_readingOf ss mm aa bb me c9 QQ DD ca B Tl AA 4 0 0 M 0 [(0, .ref (B + 0)), (1, .int x1), (2, .int x2)] []
  refine g_aload_n F dL_readingOf_0 rfl 0 rfl ?_
  refine g_iload_n F dL_readingOf_1 rfl 1 rfl ?_
  refine g_iload_n F dL_readingOf_2 rfl 2 rfl ?_
  refine x_callV F hM (cwV 2 F.1.2.2.2.2 gL_readingOf_X8_readingOf rfl rfl rfl (by decide +kernel) ⟨Nat.le_of_ble_eq_true rfl, Nat.le_of_ble_eq_true rfl⟩) r0 (by decide) rfl rfl rfl rfl (Nat.le_of_ble_eq_true rfl) dL_readingOf_3 ⟨Nat.le_of_ble_eq_true rfl, Nat.le_of_ble_eq_true rfl⟩ (fun v9 u9 h9 => ?_) (fun E9 u9 x9 => ?_)
  · obtain ⟨x9, rfl⟩ := hp _ _ _ h9
    refine g_widen (k := rmL_readingOf.cells) (n := rmL_readingOf.slots) (Nat.le_of_ble_eq_true rfl) (Nat.le_of_ble_eq_true rfl) ?_
    exact K _ _ _ _ dL_readingOf_6 (Or.inl h9)
  · have hE := hx _ _ x9
    rcases hE with rfl | rfl
    · refine g_catch F [] ⟨0, 6, 7, 16⟩ [⟨0, 6, 11, 18⟩] hT (fun z hz => absurd hz List.not_mem_nil) (by decide) (by decide) (by decide +kernel) (by decide +kernel) (fun q9 => ?_)
      refine g_astore_n F dL_readingOf_7 rfl (by decide) rfl ?_
      refine g_bipush F (v := -101) dL_readingOf_8 (by decide +kernel) ?_
      refine g_widen (k := rmL_readingOf.cells) (n := rmL_readingOf.slots) (Nat.le_of_ble_eq_true rfl) (Nat.le_of_ble_eq_true rfl) ?_
      exact K _ _ _ _ dL_readingOf_10 (Or.inr (Or.inl ⟨rfl, x9⟩))
    · refine g_catch F [⟨0, 6, 7, 16⟩] ⟨0, 6, 11, 18⟩ [] hT (fun z hz => by obtain rfl := List.mem_singleton.mp hz; exact Or.inr ⟨by decide, xI, by decide +kernel, F.2.2.2.1.2.2.2.2.2.2.1⟩) (by decide) (by decide) (by decide +kernel) (by decide +kernel) (fun q9 => ?_)
      refine g_astore_n F dL_readingOf_11 rfl (by decide) rfl ?_
      refine g_bipush F (v := -102) dL_readingOf_12 (by decide +kernel) ?_
      refine g_widen (k := rmL_readingOf.cells) (n := rmL_readingOf.slots) (Nat.le_of_ble_eq_true rfl) (Nat.le_of_ble_eq_true rfl) ?_
      exact K _ _ _ _ dL_readingOf_14 (Or.inr (Or.inr ⟨rfl, x9⟩))

abbrev rmL_readingsFrom : Room := { frames := 8, cells := 2, slots := 12, locals := 134 }
set_option maxHeartbeats 400000 in
set_option maxRecDepth 100000 in
theorem kL_readingsFrom (l : Launch) {M : Mm} (x1 : Int32) (x2 : Int32) {post : Nat → Option Value → Mm → Prop} {xp : String → Mm → Prop} (hM : Cx l yX8_readingsFrom wsX8_readingsFrom rmX8_readingsFrom (fun B => [.ref (B + 0), .int x1, .int x2]) M post xp) (hp : ∀ B v u, post B v u → ∃ x, v = some (.int x)) (hx : ∀ E u, xp E u → E = xI ∨ E = xA) : Ct l yL_readingsFrom wsL_readingsFrom rmL_readingsFrom (fun B => [.ref (B + 0), .int x1, .int x2]) M (W2 post xp xI (-101) xA (-102)) := by
  refine Ct.ofX (own := RL) (by decide +kernel) rfl rfl (fun B => Nat.le_of_ble_eq_true rfl) ?_
  intro pp ee ss mm aa bb me c9 DD ca B Tl AA QQ F hT K
  show G pp l ee rmL_readingsFrom ss mm aa bb me c9 QQ DD ca B Tl AA 4 0 0 M 0 [(0, .ref (B + 0)), (1, .int x1), (2, .int x2)] []
  refine g_aload_n F dL_readingsFrom_0 rfl 0 rfl ?_
  refine g_iload_n F dL_readingsFrom_1 rfl 1 rfl ?_
  refine g_iload_n F dL_readingsFrom_2 rfl 2 rfl ?_
  refine x_callV F hM (cwV 2 F.1.2.2.2.2 gL_readingsFrom_X8_readingsFrom rfl rfl rfl (by decide +kernel) ⟨Nat.le_of_ble_eq_true rfl, Nat.le_of_ble_eq_true rfl⟩) r0 (by decide) rfl rfl rfl rfl (Nat.le_of_ble_eq_true rfl) dL_readingsFrom_3 ⟨Nat.le_of_ble_eq_true rfl, Nat.le_of_ble_eq_true rfl⟩ (fun v9 u9 h9 => ?_) (fun E9 u9 x9 => ?_)
  · obtain ⟨x9, rfl⟩ := hp _ _ _ h9
    refine g_widen (k := rmL_readingsFrom.cells) (n := rmL_readingsFrom.slots) (Nat.le_of_ble_eq_true rfl) (Nat.le_of_ble_eq_true rfl) ?_
    exact K _ _ _ _ dL_readingsFrom_6 (Or.inl h9)
  · have hE := hx _ _ x9
    rcases hE with rfl | rfl
    · refine g_catch F [] ⟨0, 6, 7, 16⟩ [⟨0, 6, 11, 18⟩] hT (fun z hz => absurd hz List.not_mem_nil) (by decide) (by decide) (by decide +kernel) (by decide +kernel) (fun q9 => ?_)
      refine g_astore_n F dL_readingsFrom_7 rfl (by decide) rfl ?_
      refine g_bipush F (v := -101) dL_readingsFrom_8 (by decide +kernel) ?_
      refine g_widen (k := rmL_readingsFrom.cells) (n := rmL_readingsFrom.slots) (Nat.le_of_ble_eq_true rfl) (Nat.le_of_ble_eq_true rfl) ?_
      exact K _ _ _ _ dL_readingsFrom_10 (Or.inr (Or.inl ⟨rfl, x9⟩))
    · refine g_catch F [⟨0, 6, 7, 16⟩] ⟨0, 6, 11, 18⟩ [] hT (fun z hz => by obtain rfl := List.mem_singleton.mp hz; exact Or.inr ⟨by decide, xI, by decide +kernel, F.2.2.2.1.2.2.2.2.2.2.1⟩) (by decide) (by decide) (by decide +kernel) (by decide +kernel) (fun q9 => ?_)
      refine g_astore_n F dL_readingsFrom_11 rfl (by decide) rfl ?_
      refine g_bipush F (v := -102) dL_readingsFrom_12 (by decide +kernel) ?_
      refine g_widen (k := rmL_readingsFrom.cells) (n := rmL_readingsFrom.slots) (Nat.le_of_ble_eq_true rfl) (Nat.le_of_ble_eq_true rfl) ?_
      exact K _ _ _ _ dL_readingsFrom_14 (Or.inr (Or.inr ⟨rfl, x9⟩))

abbrev rmL_longestRow : Room := { frames := 8, cells := 2, slots := 12, locals := 135 }
set_option maxHeartbeats 400000 in
set_option maxRecDepth 100000 in
theorem kL_longestRow (l : Launch) {M : Mm} (x1 : Int32) (x2 : Int32) (x3 : Int32) {post : Nat → Option Value → Mm → Prop} {xp : String → Mm → Prop} (hM : Cx l yX8_longestRow wsX8_longestRow rmX8_longestRow (fun B => [.ref (B + 0), .int x1, .int x2, .int x3]) M post xp) (hp : ∀ B v u, post B v u → ∃ x, v = some (.int x)) (hx : ∀ E u, xp E u → E = xI ∨ E = xA) : Ct l yL_longestRow wsL_longestRow rmL_longestRow (fun B => [.ref (B + 0), .int x1, .int x2, .int x3]) M (W2 post xp xI (-101) xA (-102)) := by
  refine Ct.ofX (own := RL) (by decide +kernel) rfl rfl (fun B => Nat.le_of_ble_eq_true rfl) ?_
  intro pp ee ss mm aa bb me c9 DD ca B Tl AA QQ F hT K
  show G pp l ee rmL_longestRow ss mm aa bb me c9 QQ DD ca B Tl AA 5 0 0 M 0 [(0, .ref (B + 0)), (1, .int x1), (2, .int x2), (3, .int x3)] []
  refine g_aload_n F dL_longestRow_0 rfl 0 rfl ?_
  refine g_iload_n F dL_longestRow_1 rfl 1 rfl ?_
  refine g_iload_n F dL_longestRow_2 rfl 2 rfl ?_
  refine g_iload_n F dL_longestRow_3 rfl 3 rfl ?_
  refine x_callV F hM (cwV 3 F.1.2.2.2.2 gL_longestRow_X8_longestRow rfl rfl rfl (by decide +kernel) ⟨Nat.le_of_ble_eq_true rfl, Nat.le_of_ble_eq_true rfl⟩) r0 (by decide) rfl rfl rfl rfl (Nat.le_of_ble_eq_true rfl) dL_longestRow_4 ⟨Nat.le_of_ble_eq_true rfl, Nat.le_of_ble_eq_true rfl⟩ (fun v9 u9 h9 => ?_) (fun E9 u9 x9 => ?_)
  · obtain ⟨x9, rfl⟩ := hp _ _ _ h9
    refine g_widen (k := rmL_longestRow.cells) (n := rmL_longestRow.slots) (Nat.le_of_ble_eq_true rfl) (Nat.le_of_ble_eq_true rfl) ?_
    exact K _ _ _ _ dL_longestRow_7 (Or.inl h9)
  · have hE := hx _ _ x9
    rcases hE with rfl | rfl
    · refine g_catch F [] ⟨0, 7, 8, 16⟩ [⟨0, 7, 13, 18⟩] hT (fun z hz => absurd hz List.not_mem_nil) (by decide) (by decide) (by decide +kernel) (by decide +kernel) (fun q9 => ?_)
      refine g_astore F dL_longestRow_8 (by decide) rfl ?_
      refine g_bipush F (v := -101) dL_longestRow_10 (by decide +kernel) ?_
      refine g_widen (k := rmL_longestRow.cells) (n := rmL_longestRow.slots) (Nat.le_of_ble_eq_true rfl) (Nat.le_of_ble_eq_true rfl) ?_
      exact K _ _ _ _ dL_longestRow_12 (Or.inr (Or.inl ⟨rfl, x9⟩))
    · refine g_catch F [⟨0, 7, 8, 16⟩] ⟨0, 7, 13, 18⟩ [] hT (fun z hz => by obtain rfl := List.mem_singleton.mp hz; exact Or.inr ⟨by decide, xI, by decide +kernel, F.2.2.2.1.2.2.2.2.2.2.1⟩) (by decide) (by decide) (by decide +kernel) (by decide +kernel) (fun q9 => ?_)
      refine g_astore F dL_longestRow_13 (by decide) rfl ?_
      refine g_bipush F (v := -102) dL_longestRow_15 (by decide +kernel) ?_
      refine g_widen (k := rmL_longestRow.cells) (n := rmL_longestRow.slots) (Nat.le_of_ble_eq_true rfl) (Nat.le_of_ble_eq_true rfl) ?_
      exact K _ _ _ _ dL_longestRow_17 (Or.inr (Or.inr ⟨rfl, x9⟩))

abbrev rmL_errorsOf : Room := { frames := 8, cells := 1, slots := 6, locals := 132 }
set_option maxHeartbeats 400000 in
set_option maxRecDepth 100000 in
theorem kL_errorsOf (l : Launch) {M : Mm} (x1 : Int32) {post : Nat → Option Value → Mm → Prop} {xp : String → Mm → Prop} (hM : Cx l yX8_errorsOf wsX8_errorsOf rmX8_errorsOf (fun B => [.ref (B + 0), .int x1]) M post xp) (hp : ∀ B v u, post B v u → ∃ x, v = some (.int x)) (hx : ∀ E u, xp E u → E = xI) : Ct l yL_errorsOf wsL_errorsOf rmL_errorsOf (fun B => [.ref (B + 0), .int x1]) M (W1 post xp xI (-101)) := by
  refine Ct.ofX (own := RL) (by decide +kernel) rfl rfl (fun B => Nat.le_of_ble_eq_true rfl) ?_
  intro pp ee ss mm aa bb me c9 DD ca B Tl AA QQ F hT K
  show G pp l ee rmL_errorsOf ss mm aa bb me c9 QQ DD ca B Tl AA 3 0 0 M 0 [(0, .ref (B + 0)), (1, .int x1)] []
  refine g_aload_n F dL_errorsOf_0 rfl 0 rfl ?_
  refine g_iload_n F dL_errorsOf_1 rfl 1 rfl ?_
  refine x_callV F hM (cwV 1 F.1.2.2.2.2 gL_errorsOf_X8_errorsOf rfl rfl rfl (by decide +kernel) ⟨Nat.le_of_ble_eq_true rfl, Nat.le_of_ble_eq_true rfl⟩) r0 (by decide) rfl rfl rfl rfl (Nat.le_of_ble_eq_true rfl) dL_errorsOf_2 ⟨Nat.le_of_ble_eq_true rfl, Nat.le_of_ble_eq_true rfl⟩ (fun v9 u9 h9 => ?_) (fun E9 u9 x9 => ?_)
  · obtain ⟨x9, rfl⟩ := hp _ _ _ h9
    refine g_widen (k := rmL_errorsOf.cells) (n := rmL_errorsOf.slots) (Nat.le_of_ble_eq_true rfl) (Nat.le_of_ble_eq_true rfl) ?_
    exact K _ _ _ _ dL_errorsOf_5 (Or.inl h9)
  · have hE := hx _ _ x9
    obtain rfl := hE
    refine g_catch F [] ⟨0, 5, 6, 16⟩ [] hT (fun z hz => absurd hz List.not_mem_nil) (by decide) (by decide) (by decide +kernel) (by decide +kernel) (fun q9 => ?_)
    refine g_astore_n F dL_errorsOf_6 rfl (by decide) rfl ?_
    refine g_bipush F (v := -101) dL_errorsOf_7 (by decide +kernel) ?_
    refine g_widen (k := rmL_errorsOf.cells) (n := rmL_errorsOf.slots) (Nat.le_of_ble_eq_true rfl) (Nat.le_of_ble_eq_true rfl) ?_
    exact K _ _ _ _ dL_errorsOf_9 (Or.inr ⟨rfl, x9⟩)

abbrev rmL_chimneyOf : Room := { frames := 8, cells := 1, slots := 6, locals := 132 }
set_option maxHeartbeats 400000 in
set_option maxRecDepth 100000 in
theorem kL_chimneyOf (l : Launch) {M : Mm} (x1 : Int32) {post : Nat → Option Value → Mm → Prop} {xp : String → Mm → Prop} (hM : Cx l yX8_chimneyOf wsX8_chimneyOf rmX8_chimneyOf (fun B => [.ref (B + 0), .int x1]) M post xp) (hp : ∀ B v u, post B v u → ∃ x, v = some (.int x)) (hx : ∀ E u, xp E u → E = xI) : Ct l yL_chimneyOf wsL_chimneyOf rmL_chimneyOf (fun B => [.ref (B + 0), .int x1]) M (W1 post xp xI (-101)) := by
  refine Ct.ofX (own := RL) (by decide +kernel) rfl rfl (fun B => Nat.le_of_ble_eq_true rfl) ?_
  intro pp ee ss mm aa bb me c9 DD ca B Tl AA QQ F hT K
  show G pp l ee rmL_chimneyOf ss mm aa bb me c9 QQ DD ca B Tl AA 3 0 0 M 0 [(0, .ref (B + 0)), (1, .int x1)] []
  refine g_aload_n F dL_chimneyOf_0 rfl 0 rfl ?_
  refine g_iload_n F dL_chimneyOf_1 rfl 1 rfl ?_
  refine x_callV F hM (cwV 1 F.1.2.2.2.2 gL_chimneyOf_X8_chimneyOf rfl rfl rfl (by decide +kernel) ⟨Nat.le_of_ble_eq_true rfl, Nat.le_of_ble_eq_true rfl⟩) r0 (by decide) rfl rfl rfl rfl (Nat.le_of_ble_eq_true rfl) dL_chimneyOf_2 ⟨Nat.le_of_ble_eq_true rfl, Nat.le_of_ble_eq_true rfl⟩ (fun v9 u9 h9 => ?_) (fun E9 u9 x9 => ?_)
  · obtain ⟨x9, rfl⟩ := hp _ _ _ h9
    refine g_widen (k := rmL_chimneyOf.cells) (n := rmL_chimneyOf.slots) (Nat.le_of_ble_eq_true rfl) (Nat.le_of_ble_eq_true rfl) ?_
    exact K _ _ _ _ dL_chimneyOf_5 (Or.inl h9)
  · have hE := hx _ _ x9
    obtain rfl := hE
    refine g_catch F [] ⟨0, 5, 6, 16⟩ [] hT (fun z hz => absurd hz List.not_mem_nil) (by decide) (by decide) (by decide +kernel) (by decide +kernel) (fun q9 => ?_)
    refine g_astore_n F dL_chimneyOf_6 rfl (by decide) rfl ?_
    refine g_bipush F (v := -101) dL_chimneyOf_7 (by decide +kernel) ?_
    refine g_widen (k := rmL_chimneyOf.cells) (n := rmL_chimneyOf.slots) (Nat.le_of_ble_eq_true rfl) (Nat.le_of_ble_eq_true rfl) ?_
    exact K _ _ _ _ dL_chimneyOf_9 (Or.inr ⟨rfl, x9⟩)

abbrev rmL_fineOf : Room := { frames := 8, cells := 1, slots := 6, locals := 132 }
set_option maxHeartbeats 400000 in
set_option maxRecDepth 100000 in
theorem kL_fineOf (l : Launch) {M : Mm} (x1 : Int32) {post : Nat → Option Value → Mm → Prop} {xp : String → Mm → Prop} (hM : Cx l yX8_fineOf wsX8_fineOf rmX8_fineOf (fun B => [.ref (B + 0), .int x1]) M post xp) (hp : ∀ B v u, post B v u → ∃ x, v = some (.int x)) (hx : ∀ E u, xp E u → E = xI) : Ct l yL_fineOf wsL_fineOf rmL_fineOf (fun B => [.ref (B + 0), .int x1]) M (W1 post xp xI (-101)) := by
  refine Ct.ofX (own := RL) (by decide +kernel) rfl rfl (fun B => Nat.le_of_ble_eq_true rfl) ?_
  intro pp ee ss mm aa bb me c9 DD ca B Tl AA QQ F hT K
  show G pp l ee rmL_fineOf ss mm aa bb me c9 QQ DD ca B Tl AA 3 0 0 M 0 [(0, .ref (B + 0)), (1, .int x1)] []
  refine g_aload_n F dL_fineOf_0 rfl 0 rfl ?_
  refine g_iload_n F dL_fineOf_1 rfl 1 rfl ?_
  refine x_callV F hM (cwV 1 F.1.2.2.2.2 gL_fineOf_X8_fineOf rfl rfl rfl (by decide +kernel) ⟨Nat.le_of_ble_eq_true rfl, Nat.le_of_ble_eq_true rfl⟩) r0 (by decide) rfl rfl rfl rfl (Nat.le_of_ble_eq_true rfl) dL_fineOf_2 ⟨Nat.le_of_ble_eq_true rfl, Nat.le_of_ble_eq_true rfl⟩ (fun v9 u9 h9 => ?_) (fun E9 u9 x9 => ?_)
  · obtain ⟨x9, rfl⟩ := hp _ _ _ h9
    refine g_widen (k := rmL_fineOf.cells) (n := rmL_fineOf.slots) (Nat.le_of_ble_eq_true rfl) (Nat.le_of_ble_eq_true rfl) ?_
    exact K _ _ _ _ dL_fineOf_5 (Or.inl h9)
  · have hE := hx _ _ x9
    obtain rfl := hE
    refine g_catch F [] ⟨0, 5, 6, 16⟩ [] hT (fun z hz => absurd hz List.not_mem_nil) (by decide) (by decide) (by decide +kernel) (by decide +kernel) (fun q9 => ?_)
    refine g_astore_n F dL_fineOf_6 rfl (by decide) rfl ?_
    refine g_bipush F (v := -101) dL_fineOf_7 (by decide +kernel) ?_
    refine g_widen (k := rmL_fineOf.cells) (n := rmL_fineOf.slots) (Nat.le_of_ble_eq_true rfl) (Nat.le_of_ble_eq_true rfl) ?_
    exact K _ _ _ _ dL_fineOf_9 (Or.inr ⟨rfl, x9⟩)

abbrev rmL_stands : Room := { frames := 8, cells := 1, slots := 6, locals := 132 }
set_option maxHeartbeats 400000 in
set_option maxRecDepth 100000 in
theorem kL_stands (l : Launch) {M : Mm} (x1 : Int32) {post : Nat → Option Value → Mm → Prop} {xp : String → Mm → Prop} (hM : Cx l yX8_stands wsX8_stands rmX8_stands (fun B => [.ref (B + 0), .int x1]) M post xp) (hp : ∀ B v u, post B v u → ∃ x, v = some (.int x)) (hx : ∀ E u, xp E u → E = xI) : Ct l yL_stands wsL_stands rmL_stands (fun B => [.ref (B + 0), .int x1]) M (W1 (WT post) xp xI (-101)) := by
  refine Ct.ofX (own := RL) (by decide +kernel) rfl rfl (fun B => Nat.le_of_ble_eq_true rfl) ?_
  intro pp ee ss mm aa bb me c9 DD ca B Tl AA QQ F hT K
  show G pp l ee rmL_stands ss mm aa bb me c9 QQ DD ca B Tl AA 3 0 0 M 0 [(0, .ref (B + 0)), (1, .int x1)] []
  refine g_aload_n F dL_stands_0 rfl 0 rfl ?_
  refine g_iload_n F dL_stands_1 rfl 1 rfl ?_
  refine x_callV F hM (cwV 1 F.1.2.2.2.2 gL_stands_X8_stands rfl rfl rfl (by decide +kernel) ⟨Nat.le_of_ble_eq_true rfl, Nat.le_of_ble_eq_true rfl⟩) r0 (by decide) rfl rfl rfl rfl (Nat.le_of_ble_eq_true rfl) dL_stands_2 ⟨Nat.le_of_ble_eq_true rfl, Nat.le_of_ble_eq_true rfl⟩ (fun v9 u9 h9 => ?_) (fun E9 u9 x9 => ?_)
  · obtain ⟨x9, rfl⟩ := hp _ _ _ h9
    refine g_if_eq F 12 dL_stands_5 (by decide) (fun h1 => ?_) (fun h1 => ?_)
    · refine g_iconst F (v := 0) dL_stands_12 (by decide) ?_
      refine g_widen (k := rmL_stands.cells) (n := rmL_stands.slots) (Nat.le_of_ble_eq_true rfl) (Nat.le_of_ble_eq_true rfl) ?_
      exact K _ _ _ _ dL_stands_13 (Or.inl ⟨x9, h9, by rw [if_pos h1]⟩)
    · refine g_iconst F (v := 1) dL_stands_8 (by decide) ?_
      refine g_goto F 13 dL_stands_9 (by decide) ?_
      refine g_widen (k := rmL_stands.cells) (n := rmL_stands.slots) (Nat.le_of_ble_eq_true rfl) (Nat.le_of_ble_eq_true rfl) ?_
      exact K _ _ _ _ dL_stands_13 (Or.inl ⟨x9, h9, by rw [if_neg h1]⟩)
  · have hE := hx _ _ x9
    obtain rfl := hE
    refine g_catch F [] ⟨0, 13, 14, 16⟩ [] hT (fun z hz => absurd hz List.not_mem_nil) (by decide) (by decide) (by decide +kernel) (by decide +kernel) (fun q9 => ?_)
    refine g_astore_n F dL_stands_14 rfl (by decide) rfl ?_
    refine g_bipush F (v := -101) dL_stands_15 (by decide +kernel) ?_
    refine g_widen (k := rmL_stands.cells) (n := rmL_stands.slots) (Nat.le_of_ble_eq_true rfl) (Nat.le_of_ble_eq_true rfl) ?_
    exact K _ _ _ _ dL_stands_17 (Or.inr ⟨rfl, x9⟩)

abbrev rmL_wouldAppeal : Room := { frames := 8, cells := 1, slots := 6, locals := 132 }
set_option maxHeartbeats 400000 in
set_option maxRecDepth 100000 in
theorem kL_wouldAppeal (l : Launch) {M : Mm} (x1 : Int32) {post : Nat → Option Value → Mm → Prop} {xp : String → Mm → Prop} (hM : Cx l yX8_wouldAppeal wsX8_wouldAppeal rmX8_wouldAppeal (fun B => [.ref (B + 0), .int x1]) M post xp) (hp : ∀ B v u, post B v u → ∃ x, v = some (.int x)) (hx : ∀ E u, xp E u → E = xI) : Ct l yL_wouldAppeal wsL_wouldAppeal rmL_wouldAppeal (fun B => [.ref (B + 0), .int x1]) M (W1 post xp xI (-101)) := by
  refine Ct.ofX (own := RL) (by decide +kernel) rfl rfl (fun B => Nat.le_of_ble_eq_true rfl) ?_
  intro pp ee ss mm aa bb me c9 DD ca B Tl AA QQ F hT K
  show G pp l ee rmL_wouldAppeal ss mm aa bb me c9 QQ DD ca B Tl AA 3 0 0 M 0 [(0, .ref (B + 0)), (1, .int x1)] []
  refine g_aload_n F dL_wouldAppeal_0 rfl 0 rfl ?_
  refine g_iload_n F dL_wouldAppeal_1 rfl 1 rfl ?_
  refine x_callV F hM (cwV 1 F.1.2.2.2.2 gL_wouldAppeal_X8_wouldAppeal rfl rfl rfl (by decide +kernel) ⟨Nat.le_of_ble_eq_true rfl, Nat.le_of_ble_eq_true rfl⟩) r0 (by decide) rfl rfl rfl rfl (Nat.le_of_ble_eq_true rfl) dL_wouldAppeal_2 ⟨Nat.le_of_ble_eq_true rfl, Nat.le_of_ble_eq_true rfl⟩ (fun v9 u9 h9 => ?_) (fun E9 u9 x9 => ?_)
  · obtain ⟨x9, rfl⟩ := hp _ _ _ h9
    refine g_widen (k := rmL_wouldAppeal.cells) (n := rmL_wouldAppeal.slots) (Nat.le_of_ble_eq_true rfl) (Nat.le_of_ble_eq_true rfl) ?_
    exact K _ _ _ _ dL_wouldAppeal_5 (Or.inl h9)
  · have hE := hx _ _ x9
    obtain rfl := hE
    refine g_catch F [] ⟨0, 5, 6, 16⟩ [] hT (fun z hz => absurd hz List.not_mem_nil) (by decide) (by decide) (by decide +kernel) (by decide +kernel) (fun q9 => ?_)
    refine g_astore_n F dL_wouldAppeal_6 rfl (by decide) rfl ?_
    refine g_bipush F (v := -101) dL_wouldAppeal_7 (by decide +kernel) ?_
    refine g_widen (k := rmL_wouldAppeal.cells) (n := rmL_wouldAppeal.slots) (Nat.le_of_ble_eq_true rfl) (Nat.le_of_ble_eq_true rfl) ?_
    exact K _ _ _ _ dL_wouldAppeal_9 (Or.inr ⟨rfl, x9⟩)

abbrev rmL_finesOf : Room := { frames := 8, cells := 1, slots := 6, locals := 134 }
set_option maxHeartbeats 400000 in
set_option maxRecDepth 100000 in
theorem kL_finesOf (l : Launch) {M : Mm} (x1 : Int32) (x2 : Int32) {post : Nat → Option Value → Mm → Prop} {xp : String → Mm → Prop} (hM : Cx l yX8_finesOf wsX8_finesOf rmX8_finesOf (fun B => [.ref (B + 0), .int x1, .int x2]) M post xp) (hp : ∀ B v u, post B v u → ∃ x, v = some (.int x)) (hx : ∀ E u, xp E u → E = xI) : Ct l yL_finesOf wsL_finesOf rmL_finesOf (fun B => [.ref (B + 0), .int x1, .int x2]) M (W1 post xp xI (-101)) := by
  refine Ct.ofX (own := RL) (by decide +kernel) rfl rfl (fun B => Nat.le_of_ble_eq_true rfl) ?_
  intro pp ee ss mm aa bb me c9 DD ca B Tl AA QQ F hT K
  show G pp l ee rmL_finesOf ss mm aa bb me c9 QQ DD ca B Tl AA 4 0 0 M 0 [(0, .ref (B + 0)), (1, .int x1), (2, .int x2)] []
  refine g_aload_n F dL_finesOf_0 rfl 0 rfl ?_
  refine g_iload_n F dL_finesOf_1 rfl 1 rfl ?_
  refine g_iload_n F dL_finesOf_2 rfl 2 rfl ?_
  refine x_callV F hM (cwV 2 F.1.2.2.2.2 gL_finesOf_X8_finesOf rfl rfl rfl (by decide +kernel) ⟨Nat.le_of_ble_eq_true rfl, Nat.le_of_ble_eq_true rfl⟩) r0 (by decide) rfl rfl rfl rfl (Nat.le_of_ble_eq_true rfl) dL_finesOf_3 ⟨Nat.le_of_ble_eq_true rfl, Nat.le_of_ble_eq_true rfl⟩ (fun v9 u9 h9 => ?_) (fun E9 u9 x9 => ?_)
  · obtain ⟨x9, rfl⟩ := hp _ _ _ h9
    refine g_widen (k := rmL_finesOf.cells) (n := rmL_finesOf.slots) (Nat.le_of_ble_eq_true rfl) (Nat.le_of_ble_eq_true rfl) ?_
    exact K _ _ _ _ dL_finesOf_6 (Or.inl h9)
  · have hE := hx _ _ x9
    obtain rfl := hE
    refine g_catch F [] ⟨0, 6, 7, 16⟩ [] hT (fun z hz => absurd hz List.not_mem_nil) (by decide) (by decide) (by decide +kernel) (by decide +kernel) (fun q9 => ?_)
    refine g_astore_n F dL_finesOf_7 rfl (by decide) rfl ?_
    refine g_bipush F (v := -101) dL_finesOf_8 (by decide +kernel) ?_
    refine g_widen (k := rmL_finesOf.cells) (n := rmL_finesOf.slots) (Nat.le_of_ble_eq_true rfl) (Nat.le_of_ble_eq_true rfl) ?_
    exact K _ _ _ _ dL_finesOf_10 (Or.inr ⟨rfl, x9⟩)

abbrev rmL_undo : Room := { frames := 7, cells := 1, slots := 6, locals := 165 }
set_option maxHeartbeats 400000 in
set_option maxRecDepth 100000 in
theorem kL_undo (l : Launch) {M : Mm} {post : Nat → Option Value → Mm → Prop} {xp : String → Mm → Prop} (hM : Cx l yX8_undo wsX8_undo rmX8_undo (fun B => [.ref (B + 0)]) M post xp) (hp : ∀ B v u, post B v u → ∃ x, v = some (.int x)) (hx : ∀ E u, xp E u → E = xS) : Ct l yL_undo wsL_undo rmL_undo (fun B => [.ref (B + 0)]) M (W1 post xp xS (-103)) := by
  refine Ct.ofX (own := RL) (by decide +kernel) rfl rfl (fun B => Nat.le_of_ble_eq_true rfl) ?_
  intro pp ee ss mm aa bb me c9 DD ca B Tl AA QQ F hT K
  show G pp l ee rmL_undo ss mm aa bb me c9 QQ DD ca B Tl AA 2 0 0 M 0 [(0, .ref (B + 0))] []
  refine g_aload_n F dL_undo_0 rfl 0 rfl ?_
  refine x_callV F hM (cwV 0 F.1.2.2.2.2 gL_undo_X8_undo rfl rfl rfl (by decide +kernel) ⟨Nat.le_of_ble_eq_true rfl, Nat.le_of_ble_eq_true rfl⟩) r0 (by decide) rfl rfl rfl rfl (Nat.le_of_ble_eq_true rfl) dL_undo_1 ⟨Nat.le_of_ble_eq_true rfl, Nat.le_of_ble_eq_true rfl⟩ (fun v9 u9 h9 => ?_) (fun E9 u9 x9 => ?_)
  · obtain ⟨x9, rfl⟩ := hp _ _ _ h9
    refine g_widen (k := rmL_undo.cells) (n := rmL_undo.slots) (Nat.le_of_ble_eq_true rfl) (Nat.le_of_ble_eq_true rfl) ?_
    exact K _ _ _ _ dL_undo_4 (Or.inl h9)
  · have hE := hx _ _ x9
    obtain rfl := hE
    refine g_catch F [] ⟨0, 4, 5, 41⟩ [] hT (fun z hz => absurd hz List.not_mem_nil) (by decide) (by decide) (by decide +kernel) (by decide +kernel) (fun q9 => ?_)
    refine g_astore_n F dL_undo_5 rfl (by decide) rfl ?_
    refine g_bipush F (v := -103) dL_undo_6 (by decide +kernel) ?_
    refine g_widen (k := rmL_undo.cells) (n := rmL_undo.slots) (Nat.le_of_ble_eq_true rfl) (Nat.le_of_ble_eq_true rfl) ?_
    exact K _ _ _ _ dL_undo_8 (Or.inr ⟨rfl, x9⟩)

abbrev rmL_save : Room := { frames := 8, cells := 1, slots := 6, locals := 146 }
set_option maxHeartbeats 400000 in
set_option maxRecDepth 100000 in
theorem kL_save (l : Launch) {M : Mm} (x1 : Int32) {post : Nat → Option Value → Mm → Prop} {xp : String → Mm → Prop} (hM : Cx l yX8_save wsX8_save rmX8_save (fun B => [.ref (B + 0), .int x1]) M post xp) (hp : ∀ B v u, post B v u → ∃ x, v = some (.int x)) (hx : ∀ E u, xp E u → E = xI) : Ct l yL_save wsL_save rmL_save (fun B => [.ref (B + 0), .int x1]) M (W1 post xp xI (-101)) := by
  refine Ct.ofX (own := RL) (by decide +kernel) rfl rfl (fun B => Nat.le_of_ble_eq_true rfl) ?_
  intro pp ee ss mm aa bb me c9 DD ca B Tl AA QQ F hT K
  show G pp l ee rmL_save ss mm aa bb me c9 QQ DD ca B Tl AA 3 0 0 M 0 [(0, .ref (B + 0)), (1, .int x1)] []
  refine g_aload_n F dL_save_0 rfl 0 rfl ?_
  refine g_iload_n F dL_save_1 rfl 1 rfl ?_
  refine x_callV F hM (cwV 1 F.1.2.2.2.2 gL_save_X8_save rfl rfl rfl (by decide +kernel) ⟨Nat.le_of_ble_eq_true rfl, Nat.le_of_ble_eq_true rfl⟩) r0 (by decide) rfl rfl rfl rfl (Nat.le_of_ble_eq_true rfl) dL_save_2 ⟨Nat.le_of_ble_eq_true rfl, Nat.le_of_ble_eq_true rfl⟩ (fun v9 u9 h9 => ?_) (fun E9 u9 x9 => ?_)
  · obtain ⟨x9, rfl⟩ := hp _ _ _ h9
    refine g_widen (k := rmL_save.cells) (n := rmL_save.slots) (Nat.le_of_ble_eq_true rfl) (Nat.le_of_ble_eq_true rfl) ?_
    exact K _ _ _ _ dL_save_5 (Or.inl h9)
  · have hE := hx _ _ x9
    obtain rfl := hE
    refine g_catch F [] ⟨0, 5, 6, 16⟩ [] hT (fun z hz => absurd hz List.not_mem_nil) (by decide) (by decide) (by decide +kernel) (by decide +kernel) (fun q9 => ?_)
    refine g_astore_n F dL_save_6 rfl (by decide) rfl ?_
    refine g_bipush F (v := -101) dL_save_7 (by decide +kernel) ?_
    refine g_widen (k := rmL_save.cells) (n := rmL_save.slots) (Nat.le_of_ble_eq_true rfl) (Nat.le_of_ble_eq_true rfl) ?_
    exact K _ _ _ _ dL_save_9 (Or.inr ⟨rfl, x9⟩)

abbrev rmL_restore : Room := { frames := 8, cells := 2, slots := 12, locals := 167 }
set_option maxHeartbeats 400000 in
set_option maxRecDepth 100000 in
theorem kL_restore (l : Launch) {M : Mm} (x1 : Int32) {post : Nat → Option Value → Mm → Prop} {xp : String → Mm → Prop} (hM : Cx l yX8_restore wsX8_restore rmX8_restore (fun B => [.ref (B + 0), .int x1]) M post xp) (hp : ∀ B v u, post B v u → ∃ x, v = some (.int x)) (hx : ∀ E u, xp E u → E = xI ∨ E = xS) : Ct l yL_restore wsL_restore rmL_restore (fun B => [.ref (B + 0), .int x1]) M (W2 post xp xI (-101) xS (-103)) := by
  refine Ct.ofX (own := RL) (by decide +kernel) rfl rfl (fun B => Nat.le_of_ble_eq_true rfl) ?_
  intro pp ee ss mm aa bb me c9 DD ca B Tl AA QQ F hT K
  show G pp l ee rmL_restore ss mm aa bb me c9 QQ DD ca B Tl AA 3 0 0 M 0 [(0, .ref (B + 0)), (1, .int x1)] []
  refine g_aload_n F dL_restore_0 rfl 0 rfl ?_
  refine g_iload_n F dL_restore_1 rfl 1 rfl ?_
  refine x_callV F hM (cwV 1 F.1.2.2.2.2 gL_restore_X8_restore rfl rfl rfl (by decide +kernel) ⟨Nat.le_of_ble_eq_true rfl, Nat.le_of_ble_eq_true rfl⟩) r0 (by decide) rfl rfl rfl rfl (Nat.le_of_ble_eq_true rfl) dL_restore_2 ⟨Nat.le_of_ble_eq_true rfl, Nat.le_of_ble_eq_true rfl⟩ (fun v9 u9 h9 => ?_) (fun E9 u9 x9 => ?_)
  · obtain ⟨x9, rfl⟩ := hp _ _ _ h9
    refine g_widen (k := rmL_restore.cells) (n := rmL_restore.slots) (Nat.le_of_ble_eq_true rfl) (Nat.le_of_ble_eq_true rfl) ?_
    exact K _ _ _ _ dL_restore_5 (Or.inl h9)
  · have hE := hx _ _ x9
    rcases hE with rfl | rfl
    · refine g_catch F [] ⟨0, 5, 6, 16⟩ [⟨0, 5, 10, 41⟩] hT (fun z hz => absurd hz List.not_mem_nil) (by decide) (by decide) (by decide +kernel) (by decide +kernel) (fun q9 => ?_)
      refine g_astore_n F dL_restore_6 rfl (by decide) rfl ?_
      refine g_bipush F (v := -101) dL_restore_7 (by decide +kernel) ?_
      refine g_widen (k := rmL_restore.cells) (n := rmL_restore.slots) (Nat.le_of_ble_eq_true rfl) (Nat.le_of_ble_eq_true rfl) ?_
      exact K _ _ _ _ dL_restore_9 (Or.inr (Or.inl ⟨rfl, x9⟩))
    · refine g_catch F [⟨0, 5, 6, 16⟩] ⟨0, 5, 10, 41⟩ [] hT (fun z hz => by obtain rfl := List.mem_singleton.mp hz; exact Or.inr ⟨by decide, xI, by decide +kernel, F.2.2.2.1.2.2.2.2.2.2.2.1⟩) (by decide) (by decide) (by decide +kernel) (by decide +kernel) (fun q9 => ?_)
      refine g_astore_n F dL_restore_10 rfl (by decide) rfl ?_
      refine g_bipush F (v := -103) dL_restore_11 (by decide +kernel) ?_
      refine g_widen (k := rmL_restore.cells) (n := rmL_restore.slots) (Nat.le_of_ble_eq_true rfl) (Nat.le_of_ble_eq_true rfl) ?_
      exact K _ _ _ _ dL_restore_13 (Or.inr (Or.inr ⟨rfl, x9⟩))
