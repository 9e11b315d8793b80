/-- what a call of the law leaves: the code of what was thrown, or 0 and the answer in the law's own cell -/
def wQi (P : wPo) (X : Nat → wV → wI → wJ → Prop) : wPo := fun r V9 I9 J9 => ∃ t : Nat, r = some (.int (nI t)) ∧ ((t = 0 ∧ ∃ (x : Int32) (J8 : wJ), P (some (.int x)) V9 I9 J8 ∧ J9 = sJ J8 80 0 x.toInt64) ∨ (0 < t ∧ t < 4 ∧ X t V9 I9 J9))
def wQl (P : wPo) (X : Nat → wV → wI → wJ → Prop) : wPo := fun r V9 I9 J9 => ∃ t : Nat, r = some (.int (nI t)) ∧ ((t = 0 ∧ ∃ (x : Int64) (J8 : wJ), P (some (.long x)) V9 I9 J8 ∧ J9 = sJ J8 80 0 x) ∨ (0 < t ∧ t < 4 ∧ X t V9 I9 J9))
def wQv (P : wPo) (X : Nat → wV → wI → wJ → Prop) : wPo := fun r V9 I9 J9 => ∃ t : Nat, r = some (.int (nI t)) ∧ ((t = 0 ∧ P none V9 I9 J9) ∨ (0 < t ∧ t < 4 ∧ X t V9 I9 J9))
def wXc (V : wV) (I : wI) (J : wJ) (tc : Nat) : Nat → wV → wI → wJ → Prop := fun t V9 I9 J9 => V9 = V ∧ I9 = I ∧ J9 = J ∧ tc = t
def wXs (V : wV) (I : wI) (J : wJ) (tc : Nat) : Nat → wV → wI → wJ → Prop := fun t V9 I9 J9 => scr V I J V9 I9 J9 ∧ tc = t

set_option maxRecDepth 100000 in
theorem m_L_gate {l : Launch} {G : wG} (hl : l.stackTraces = false) (hG : wD G) (V : wV) (I : wI) (J : wJ) (ng : Nat) (v1 : V 1 = nI ng) (hg : ng ≤ 12) : vx_Met l yL_gate (Cond.codeWith yL_gate cL_gate 3 (some .int) [(0, 8, 11, 13)] :: TT) { frames := 8, cells := 6, slots := 36, locals := 132 } (cP G [.ref (G.2.1 0), .ref (G.2.1 80)] V I J) (cQ G (wQi (fun r V9 I9 J9 => tcGate ng = 0 ∧ r = some (.int (nI ng)) ∧ V9 = upd V 1 (nI (ng + 1)) ∧ I9 = I ∧ J9 = J ∧ ng < 12) (wXc V I J (tcGate ng)))) (cX G noX) 6 36 (wA G) := by
  refine ctrX_of (rm := { frames := 8, cells := 6, slots := 36, locals := 132 }) hl hG (by decide) (Nat.le_of_ble_eq_true rfl) [(0, .ref (G.2.1 0)), (1, .ref (G.2.1 80))] rfl ?_
  intro K hC hKl hRm hr hT
  subst hKl
  have hC : Cx K G RL cL_gate 3 := hC
  refine g_aload_n hC dL_gate_0 rfl 1 rfl ?_
  refine g_iconst (v := nI 0) hC dL_gate_1 (by decide) ?_
  refine g_aload_n hC dL_gate_2 rfl 0 rfl ?_
  refine g_callV hC [] 0 (m_X6_gate hl hG V I J ng v1 hg) rfl (by decide) rfl rfl rfl tw_370 tw_371 tw_372 tw_31 tw_373 pd_X6_gate (by rw [hRm]; exact ⟨Nat.le_of_ble_eq_true rfl, Nat.le_of_ble_eq_true rfl⟩) (Nat.le_of_ble_eq_true rfl) (by rw [hRm]; exact ⟨Nat.le_of_ble_eq_true rfl, Nat.le_of_ble_eq_true rfl⟩) dL_gate_3 (fun E9 V9 I9 J9 hx9 => ?_) (fun r9 V9 I9 J9 hp9 => ?_)
  · obtain ⟨hV9, hI9, hJ9, k, hk, htc⟩ := hx9
    match k, hk with
    | 0, hk =>
      cases hk
      refine g_catch hC [] ⟨0, 8, 11, 13⟩ [] hT (List.mem_of_getElem? (i := 0) rfl) (fun z hz => absurd hz List.not_mem_nil) (by decide) (by decide) tw_369 (fun q9 => ?_)
      refine g_astore_n hC [(2, .ref q9), (0, .ref (G.2.1 0)), (1, .ref (G.2.1 80))] dL_gate_11 rfl (by decide) rfl ?_
      refine g_iconst (v := nI 1) hC dL_gate_12 (by decide) ?_
      exact g_iret hC hr dL_gate_13 (Nat.le_of_ble_eq_true rfl) (Nat.le_of_ble_eq_true rfl) ⟨1, rfl, Or.inr ⟨by decide, by decide, ⟨hV9, hI9, hJ9, htc⟩⟩⟩
    | k + 1, hk => cases hk
  · obtain ⟨x, hr9⟩ : ∃ x : Int32, r9 = some (.int x) := by
      exact ⟨_, hp9.2.1⟩
    subst hr9
    refine g_at rfl rfl (st2 := [.int x, .int (nI 0), .ref (G.2.1 80)]) rfl ?_
    refine g_i2l hC dL_gate_6 ?_
    refine n_last hC 80 aa_80 0 (show 0 < 1 by omega) dL_gate_7 ?_
    refine g_goto hC 14 dL_gate_8 (by decide) ?_
    refine g_iconst (v := nI 0) hC dL_gate_14 (by decide) ?_
    exact g_iret hC hr dL_gate_15 (Nat.le_of_ble_eq_true rfl) (Nat.le_of_ble_eq_true rfl) ⟨0, rfl, Or.inl ⟨rfl, x, J9, hp9, rfl⟩⟩

set_option maxRecDepth 100000 in
theorem m_L_road {l : Launch} {G : wG} (hl : l.stackTraces = false) (hG : wD G) (V : wV) (I : wI) (J : wJ) (ng nr : Nat) (p0 p1 p2 p3 : Int32) (v1 : V 1 = nI ng) (v2 : V 2 = nI nr) (hg : ng ≤ 12) (hr0 : nr ≤ 24) : vx_Met l yL_road (Cond.codeWith yL_road cL_road 7 (some .int) [(0, 14, 17, 19), (0, 14, 21, 21), (0, 14, 25, 13)] :: TT) { frames := 8, cells := 6, slots := 36, locals := 136 } (cP G [.ref (G.2.1 0), .int p0, .int p1, .int p2, .int p3, .ref (G.2.1 80)] V I J) (cQ G (wQi (fun r V9 I9 J9 => tcRoad ng nr p0 p1 p2 p3 = 0 ∧ r = some (.int (nI nr)) ∧ V9 = upd V 2 (nI (nr + 1)) ∧ J9 = J ∧ nr < 24 ∧ ∃ a b, a < ng ∧ b < ng ∧ p0 = nI a ∧ p1 = nI b ∧ I9 = sdF (uI (uI (uI (uI I 8 (upd (I 8) nr (nI a))) 9 (upd (I 9) nr (nI b))) 10 (upd (I 10) nr p2)) 11 (upd (I 11) nr p3)) a b p2 ng ng) (wXc V I J (tcRoad ng nr p0 p1 p2 p3)))) (cX G noX) 6 36 (wA G) := by
  refine ctrX_of (rm := { frames := 8, cells := 6, slots := 36, locals := 136 }) hl hG (by decide) (Nat.le_of_ble_eq_true rfl) [(0, .ref (G.2.1 0)), (1, .int p0), (2, .int p1), (3, .int p2), (4, .int p3), (5, .ref (G.2.1 80))] rfl ?_
  intro K hC hKl hRm hr hT
  subst hKl
  have hC : Cx K G RL cL_road 7 := hC
  refine g_aload hC dL_road_0 5 rfl ?_
  refine g_iconst (v := nI 0) hC dL_road_2 (by decide) ?_
  refine g_aload_n hC dL_road_3 rfl 0 rfl ?_
  refine g_iload_n hC dL_road_4 rfl 1 rfl ?_
  refine g_iload_n hC dL_road_5 rfl 2 rfl ?_
  refine g_iload_n hC dL_road_6 rfl 3 rfl ?_
  refine g_iload hC dL_road_7 4 rfl ?_
  refine g_callV hC [.int p0, .int p1, .int p2, .int p3] 0 (m_X6_road hl hG V I J ng nr p0 p1 p2 p3 v1 v2 hg hr0) rfl (by decide) rfl rfl rfl tw_451 tw_452 tw_453 tw_31 tw_454 pd_X6_road (by rw [hRm]; exact ⟨Nat.le_of_ble_eq_true rfl, Nat.le_of_ble_eq_true rfl⟩) (Nat.le_of_ble_eq_true rfl) (by rw [hRm]; exact ⟨Nat.le_of_ble_eq_true rfl, Nat.le_of_ble_eq_true rfl⟩) dL_road_9 (fun E9 V9 I9 J9 hx9 => ?_) (fun r9 V9 I9 J9 hp9 => ?_)
  · obtain ⟨hV9, hI9, hJ9, k, hk, htc⟩ := hx9
    match k, hk with
    | 0, hk =>
      cases hk
      refine g_catch hC [] ⟨0, 14, 17, 19⟩ [⟨0, 14, 21, 21⟩, ⟨0, 14, 25, 13⟩] hT (List.mem_of_getElem? (i := 2) rfl) (fun z hz => absurd hz List.not_mem_nil) (by decide) (by decide) tw_449 (fun q9 => ?_)
      refine g_astore hC [(6, .ref q9), (0, .ref (G.2.1 0)), (1, .int p0), (2, .int p1), (3, .int p2), (4, .int p3), (5, .ref (G.2.1 80))] dL_road_17 (by decide) rfl ?_
      refine g_iconst (v := nI 1) hC dL_road_19 (by decide) ?_
      exact g_iret hC hr dL_road_20 (Nat.le_of_ble_eq_true rfl) (Nat.le_of_ble_eq_true rfl) ⟨1, rfl, Or.inr ⟨by decide, by decide, ⟨hV9, hI9, hJ9, htc⟩⟩⟩
    | 1, hk =>
      cases hk
      refine g_catch hC [⟨0, 14, 17, 19⟩] ⟨0, 14, 21, 21⟩ [⟨0, 14, 25, 13⟩] hT (List.mem_of_getElem? (i := 1) rfl) (List.forall_mem_cons.mpr ⟨⟨by decide, xIOB, tw_449, (List.mem_of_getElem? (i := 2) rfl), by decide⟩, (fun _ h9 => absurd h9 List.not_mem_nil)⟩) (by decide) (by decide) tw_450 (fun q9 => ?_)
      refine g_astore hC [(6, .ref q9), (0, .ref (G.2.1 0)), (1, .int p0), (2, .int p1), (3, .int p2), (4, .int p3), (5, .ref (G.2.1 80))] dL_road_21 (by decide) rfl ?_
      refine g_iconst (v := nI 2) hC dL_road_23 (by decide) ?_
      exact g_iret hC hr dL_road_24 (Nat.le_of_ble_eq_true rfl) (Nat.le_of_ble_eq_true rfl) ⟨2, rfl, Or.inr ⟨by decide, by decide, ⟨hV9, hI9, hJ9, htc⟩⟩⟩
    | 2, hk =>
      cases hk
      refine g_catch hC [⟨0, 14, 17, 19⟩, ⟨0, 14, 21, 21⟩] ⟨0, 14, 25, 13⟩ [] hT (List.mem_of_getElem? (i := 0) rfl) (List.forall_mem_cons.mpr ⟨⟨by decide, xIOB, tw_449, (List.mem_of_getElem? (i := 2) rfl), by decide⟩, (List.forall_mem_cons.mpr ⟨⟨by decide, xIAE, tw_450, (List.mem_of_getElem? (i := 1) rfl), by decide⟩, (fun _ h9 => absurd h9 List.not_mem_nil)⟩)⟩) (by decide) (by decide) tw_369 (fun q9 => ?_)
      refine g_astore hC [(6, .ref q9), (0, .ref (G.2.1 0)), (1, .int p0), (2, .int p1), (3, .int p2), (4, .int p3), (5, .ref (G.2.1 80))] dL_road_25 (by decide) rfl ?_
      refine g_iconst (v := nI 3) hC dL_road_27 (by decide) ?_
      exact g_iret hC hr dL_road_28 (Nat.le_of_ble_eq_true rfl) (Nat.le_of_ble_eq_true rfl) ⟨3, rfl, Or.inr ⟨by decide, by decide, ⟨hV9, hI9, hJ9, htc⟩⟩⟩
    | k + 3, hk => cases hk
  · obtain ⟨x, hr9⟩ : ∃ x : Int32, r9 = some (.int x) := by
      exact ⟨_, hp9.2.1⟩
    subst hr9
    refine g_at rfl rfl (st2 := [.int x, .int (nI 0), .ref (G.2.1 80)]) rfl ?_
    refine g_i2l hC dL_road_12 ?_
    refine n_last hC 80 aa_80 0 (show 0 < 1 by omega) dL_road_13 ?_
    refine g_goto hC 29 dL_road_14 (by decide) ?_
    refine g_iconst (v := nI 0) hC dL_road_29 (by decide) ?_
    exact g_iret hC hr dL_road_30 (Nat.le_of_ble_eq_true rfl) (Nat.le_of_ble_eq_true rfl) ⟨0, rfl, Or.inl ⟨rfl, x, J9, hp9, rfl⟩⟩

set_option maxRecDepth 100000 in
theorem m_L_rate {l : Launch} {G : wG} (hl : l.stackTraces = false) (hG : wD G) (V : wV) (I : wI) (J : wJ) (p0 p1 p2 : Int32) : vx_Met l yL_rate (Cond.codeWith yL_rate cL_rate 5 (some .int) [(0, 7, 10, 21)] :: TT) { frames := 8, cells := 6, slots := 36, locals := 135 } (cP G [.ref (G.2.1 0), .int p0, .int p1, .int p2] V I J) (cQ G (wQv (fun r V9 I9 J9 => tcRate p0 p1 p2 = 0 ∧ r = none ∧ V9 = V ∧ J9 = J ∧ ∃ k, k < 3 ∧ p0 = nI k ∧ I9 = sI (sI I 12 k p1) 13 k p2) (wXc V I J (tcRate p0 p1 p2)))) (cX G noX) 6 36 (wA G) := by
  refine ctrX_of (rm := { frames := 8, cells := 6, slots := 36, locals := 135 }) hl hG (by decide) (Nat.le_of_ble_eq_true rfl) [(0, .ref (G.2.1 0)), (1, .int p0), (2, .int p1), (3, .int p2)] rfl ?_
  intro K hC hKl hRm hr hT
  subst hKl
  have hC : Cx K G RL cL_rate 5 := hC
  refine g_aload_n hC dL_rate_0 rfl 0 rfl ?_
  refine g_iload_n hC dL_rate_1 rfl 1 rfl ?_
  refine g_iload_n hC dL_rate_2 rfl 2 rfl ?_
  refine g_iload_n hC dL_rate_3 rfl 3 rfl ?_
  refine g_callV hC [.int p0, .int p1, .int p2] 0 (m_X6_rate hl hG V I J p0 p1 p2) rfl (by decide) rfl rfl rfl tw_508 tw_509 tw_510 tw_31 tw_511 pd_X6_rate (by rw [hRm]; exact ⟨Nat.le_of_ble_eq_true rfl, Nat.le_of_ble_eq_true rfl⟩) (Nat.le_of_ble_eq_true rfl) (by rw [hRm]; exact ⟨Nat.le_of_ble_eq_true rfl, Nat.le_of_ble_eq_true rfl⟩) dL_rate_4 (fun E9 V9 I9 J9 hx9 => ?_) (fun r9 V9 I9 J9 hp9 => ?_)
  · obtain ⟨hV9, hI9, hJ9, k, hk, htc⟩ := hx9
    match k, hk with
    | 0, hk =>
      cases hk
      refine g_catch hC [] ⟨0, 7, 10, 21⟩ [] hT (List.mem_of_getElem? (i := 1) rfl) (fun z hz => absurd hz List.not_mem_nil) (by decide) (by decide) tw_450 (fun q9 => ?_)
      refine g_astore hC [(4, .ref q9), (0, .ref (G.2.1 0)), (1, .int p0), (2, .int p1), (3, .int p2)] dL_rate_10 (by decide) rfl ?_
      refine g_iconst (v := nI 1) hC dL_rate_12 (by decide) ?_
      exact g_iret hC hr dL_rate_13 (Nat.le_of_ble_eq_true rfl) (Nat.le_of_ble_eq_true rfl) ⟨1, rfl, Or.inr ⟨by decide, by decide, ⟨hV9, hI9, hJ9, htc⟩⟩⟩
    | k + 1, hk => cases hk
  · have hr9 : r9 = none := hp9.2.1
    subst hr9
    refine g_at rfl rfl (st2 := []) rfl ?_
    refine g_goto hC 14 dL_rate_7 (by decide) ?_
    refine g_iconst (v := nI 0) hC dL_rate_14 (by decide) ?_
    exact g_iret hC hr dL_rate_15 (Nat.le_of_ble_eq_true rfl) (Nat.le_of_ble_eq_true rfl) ⟨0, rfl, Or.inl ⟨rfl, hp9⟩⟩
