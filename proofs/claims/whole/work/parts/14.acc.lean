theorem wo_0 {G : wG} {V : wV} {I : wI} {J : wJ} {x : Int32} : ∀ j, j ≠ 0 → wEnt G V I J j = wEnt G (upd V 0 x) I J j := by
  intro j hj
  rcases Nat.lt_or_ge j 8 with h | h
  · rcases (show j = 0 ∨ j = 1 ∨ j = 2 ∨ j = 3 ∨ j = 4 ∨ j = 5 ∨ j = 6 ∨ j = 7 by omega) with rfl | rfl | rfl | rfl | rfl | rfl | rfl | rfl <;> first | rfl | exact absurd rfl hj
  · rw [wEnt_arr G _ _ _ h, wEnt_arr G _ _ _ h]
theorem wo_1 {G : wG} {V : wV} {I : wI} {J : wJ} {x : Int32} : ∀ j, j ≠ 1 → wEnt G V I J j = wEnt G (upd V 1 x) I J j := by
  intro j hj
  rcases Nat.lt_or_ge j 8 with h | h
  · rcases (show j = 0 ∨ j = 1 ∨ j = 2 ∨ j = 3 ∨ j = 4 ∨ j = 5 ∨ j = 6 ∨ j = 7 by omega) with rfl | rfl | rfl | rfl | rfl | rfl | rfl | rfl <;> first | rfl | exact absurd rfl hj
  · rw [wEnt_arr G _ _ _ h, wEnt_arr G _ _ _ h]
theorem wo_2 {G : wG} {V : wV} {I : wI} {J : wJ} {x : Int32} : ∀ j, j ≠ 1 → wEnt G V I J j = wEnt G (upd V 2 x) I J j := by
  intro j hj
  rcases Nat.lt_or_ge j 8 with h | h
  · rcases (show j = 0 ∨ j = 1 ∨ j = 2 ∨ j = 3 ∨ j = 4 ∨ j = 5 ∨ j = 6 ∨ j = 7 by omega) with rfl | rfl | rfl | rfl | rfl | rfl | rfl | rfl <;> first | rfl | exact absurd rfl hj
  · rw [wEnt_arr G _ _ _ h, wEnt_arr G _ _ _ h]
theorem wo_3 {G : wG} {V : wV} {I : wI} {J : wJ} {x : Int32} : ∀ j, j ≠ 2 → wEnt G V I J j = wEnt G (upd V 3 x) I J j := by
  intro j hj
  rcases Nat.lt_or_ge j 8 with h | h
  · rcases (show j = 0 ∨ j = 1 ∨ j = 2 ∨ j = 3 ∨ j = 4 ∨ j = 5 ∨ j = 6 ∨ j = 7 by omega) with rfl | rfl | rfl | rfl | rfl | rfl | rfl | rfl <;> first | rfl | exact absurd rfl hj
  · rw [wEnt_arr G _ _ _ h, wEnt_arr G _ _ _ h]
theorem wo_4 {G : wG} {V : wV} {I : wI} {J : wJ} {x : Int32} : ∀ j, j ≠ 3 → wEnt G V I J j = wEnt G (upd V 4 x) I J j := by
  intro j hj
  rcases Nat.lt_or_ge j 8 with h | h
  · rcases (show j = 0 ∨ j = 1 ∨ j = 2 ∨ j = 3 ∨ j = 4 ∨ j = 5 ∨ j = 6 ∨ j = 7 by omega) with rfl | rfl | rfl | rfl | rfl | rfl | rfl | rfl <;> first | rfl | exact absurd rfl hj
  · rw [wEnt_arr G _ _ _ h, wEnt_arr G _ _ _ h]
theorem wo_5 {G : wG} {V : wV} {I : wI} {J : wJ} {x : Int32} : ∀ j, j ≠ 4 → wEnt G V I J j = wEnt G (upd V 5 x) I J j := by
  intro j hj
  rcases Nat.lt_or_ge j 8 with h | h
  · rcases (show j = 0 ∨ j = 1 ∨ j = 2 ∨ j = 3 ∨ j = 4 ∨ j = 5 ∨ j = 6 ∨ j = 7 by omega) with rfl | rfl | rfl | rfl | rfl | rfl | rfl | rfl <;> first | rfl | exact absurd rfl hj
  · rw [wEnt_arr G _ _ _ h, wEnt_arr G _ _ _ h]
theorem wo_6 {G : wG} {V : wV} {I : wI} {J : wJ} {x : Int32} : ∀ j, j ≠ 5 → wEnt G V I J j = wEnt G (upd V 6 x) I J j := by
  intro j hj
  rcases Nat.lt_or_ge j 8 with h | h
  · rcases (show j = 0 ∨ j = 1 ∨ j = 2 ∨ j = 3 ∨ j = 4 ∨ j = 5 ∨ j = 6 ∨ j = 7 by omega) with rfl | rfl | rfl | rfl | rfl | rfl | rfl | rfl <;> first | rfl | exact absurd rfl hj
  · rw [wEnt_arr G _ _ _ h, wEnt_arr G _ _ _ h]
theorem wo_7 {G : wG} {V : wV} {I : wI} {J : wJ} {x : Int32} : ∀ j, j ≠ 7 → wEnt G V I J j = wEnt G (upd V 7 x) I J j := by
  intro j hj
  rcases Nat.lt_or_ge j 8 with h | h
  · rcases (show j = 0 ∨ j = 1 ∨ j = 2 ∨ j = 3 ∨ j = 4 ∨ j = 5 ∨ j = 6 ∨ j = 7 by omega) with rfl | rfl | rfl | rfl | rfl | rfl | rfl | rfl <;> first | rfl | exact absurd rfl hj
  · rw [wEnt_arr G _ _ _ h, wEnt_arr G _ _ _ h]
theorem wo_8 {G : wG} {V : wV} {I : wI} {J : wJ} {x : Int32} : ∀ j, j ≠ 7 → wEnt G V I J j = wEnt G (upd V 8 x) I J j := by
  intro j hj
  rcases Nat.lt_or_ge j 8 with h | h
  · rcases (show j = 0 ∨ j = 1 ∨ j = 2 ∨ j = 3 ∨ j = 4 ∨ j = 5 ∨ j = 6 ∨ j = 7 by omega) with rfl | rfl | rfl | rfl | rfl | rfl | rfl | rfl <;> first | rfl | exact absurd rfl hj
  · rw [wEnt_arr G _ _ _ h, wEnt_arr G _ _ _ h]
theorem wo_9 {G : wG} {V : wV} {I : wI} {J : wJ} {x : Int32} : ∀ j, j ≠ 7 → wEnt G V I J j = wEnt G (upd V 9 x) I J j := by
  intro j hj
  rcases Nat.lt_or_ge j 8 with h | h
  · rcases (show j = 0 ∨ j = 1 ∨ j = 2 ∨ j = 3 ∨ j = 4 ∨ j = 5 ∨ j = 6 ∨ j = 7 by omega) with rfl | rfl | rfl | rfl | rfl | rfl | rfl | rfl <;> first | rfl | exact absurd rfl hj
  · rw [wEnt_arr G _ _ _ h, wEnt_arr G _ _ _ h]
theorem wo_10 {G : wG} {V : wV} {I : wI} {J : wJ} {x : Int32} : ∀ j, j ≠ 7 → wEnt G V I J j = wEnt G (upd V 10 x) I J j := by
  intro j hj
  rcases Nat.lt_or_ge j 8 with h | h
  · rcases (show j = 0 ∨ j = 1 ∨ j = 2 ∨ j = 3 ∨ j = 4 ∨ j = 5 ∨ j = 6 ∨ j = 7 by omega) with rfl | rfl | rfl | rfl | rfl | rfl | rfl | rfl <;> first | rfl | exact absurd rfl hj
  · rw [wEnt_arr G _ _ _ h, wEnt_arr G _ _ _ h]
theorem wo_11 {G : wG} {V : wV} {I : wI} {J : wJ} {x : Int32} : ∀ j, j ≠ 7 → wEnt G V I J j = wEnt G (upd V 11 x) I J j := by
  intro j hj
  rcases Nat.lt_or_ge j 8 with h | h
  · rcases (show j = 0 ∨ j = 1 ∨ j = 2 ∨ j = 3 ∨ j = 4 ∨ j = 5 ∨ j = 6 ∨ j = 7 by omega) with rfl | rfl | rfl | rfl | rfl | rfl | rfl | rfl <;> first | rfl | exact absurd rfl hj
  · rw [wEnt_arr G _ _ _ h, wEnt_arr G _ _ _ h]
theorem wo_12 {G : wG} {V : wV} {I : wI} {J : wJ} {x : Int32} : ∀ j, j ≠ 7 → wEnt G V I J j = wEnt G (upd V 12 x) I J j := by
  intro j hj
  rcases Nat.lt_or_ge j 8 with h | h
  · rcases (show j = 0 ∨ j = 1 ∨ j = 2 ∨ j = 3 ∨ j = 4 ∨ j = 5 ∨ j = 6 ∨ j = 7 by omega) with rfl | rfl | rfl | rfl | rfl | rfl | rfl | rfl <;> first | rfl | exact absurd rfl hj
  · rw [wEnt_arr G _ _ _ h, wEnt_arr G _ _ _ h]
theorem wo_13 {G : wG} {V : wV} {I : wI} {J : wJ} {x : Int32} : ∀ j, j ≠ 7 → wEnt G V I J j = wEnt G (upd V 13 x) I J j := by
  intro j hj
  rcases Nat.lt_or_ge j 8 with h | h
  · rcases (show j = 0 ∨ j = 1 ∨ j = 2 ∨ j = 3 ∨ j = 4 ∨ j = 5 ∨ j = 6 ∨ j = 7 by omega) with rfl | rfl | rfl | rfl | rfl | rfl | rfl | rfl <;> first | rfl | exact absurd rfl hj
  · rw [wEnt_arr G _ _ _ h, wEnt_arr G _ _ _ h]
theorem wo_14 {G : wG} {V : wV} {I : wI} {J : wJ} {x : Int32} : ∀ j, j ≠ 7 → wEnt G V I J j = wEnt G (upd V 14 x) I J j := by
  intro j hj
  rcases Nat.lt_or_ge j 8 with h | h
  · rcases (show j = 0 ∨ j = 1 ∨ j = 2 ∨ j = 3 ∨ j = 4 ∨ j = 5 ∨ j = 6 ∨ j = 7 by omega) with rfl | rfl | rfl | rfl | rfl | rfl | rfl | rfl <;> first | rfl | exact absurd rfl hj
  · rw [wEnt_arr G _ _ _ h, wEnt_arr G _ _ _ h]
section GF
variable {K : wK} {G : wG} {cells slots : Nat} {Q : State → Prop} {V : wV} {I : wI} {J : wJ} {pc : Nat} {lv : List (Nat × Value)} {st : List Value} {cc : ByteArray} {nL : Nat}

theorem gf_X4_9 (C : Cx K G RX4 cc nL) (hd : decode cc pc = .ok (.getfield 9, 3)) (k : WW K G cells slots Q V I J (pc + 3) lv (.ref (G.2.1 8) :: st)) : WW K G cells slots Q V I J (pc) lv (.ref (G.2.1 1) :: st) := g_get C 1 (by decide) rfl rfl inT4 0 (by decide) tw_63 rfl hd k
theorem gf_X4_15 (C : Cx K G RX4 cc nL) (hd : decode cc pc = .ok (.getfield 15, 3)) (k : WW K G cells slots Q V I J (pc + 3) lv (.ref (G.2.1 9) :: st)) : WW K G cells slots Q V I J (pc) lv (.ref (G.2.1 1) :: st) := g_get C 1 (by decide) rfl rfl inT4 1 (by decide) tw_64 rfl hd k
theorem gf_X4_18 (C : Cx K G RX4 cc nL) (hd : decode cc pc = .ok (.getfield 18, 3)) (k : WW K G cells slots Q V I J (pc + 3) lv (.ref (G.2.1 10) :: st)) : WW K G cells slots Q V I J (pc) lv (.ref (G.2.1 1) :: st) := g_get C 1 (by decide) rfl rfl inT4 2 (by decide) tw_65 rfl hd k
theorem gf_X4_21 (C : Cx K G RX4 cc nL) (hd : decode cc pc = .ok (.getfield 21, 3)) (k : WW K G cells slots Q V I J (pc + 3) lv (.ref (G.2.1 11) :: st)) : WW K G cells slots Q V I J (pc) lv (.ref (G.2.1 1) :: st) := g_get C 1 (by decide) rfl rfl inT4 3 (by decide) tw_67 rfl hd k
theorem gf_X4_26 (C : Cx K G RX4 cc nL) (hd : decode cc pc = .ok (.getfield 26, 3)) (k : WW K G cells slots Q V I J (pc + 3) lv (.ref (G.2.1 33) :: st)) : WW K G cells slots Q V I J (pc) lv (.ref (G.2.1 1) :: st) := g_get C 1 (by decide) rfl rfl inT4 4 (by decide) tw_69 rfl hd k
theorem gf_X4_30 (C : Cx K G RX4 cc nL) (hd : decode cc pc = .ok (.getfield 30, 3)) (k : WW K G cells slots Q V I J (pc + 3) lv (.int (V 1) :: st)) : WW K G cells slots Q V I J (pc) lv (.ref (G.2.1 1) :: st) := g_get C 1 (by decide) rfl rfl inT4 5 (by decide) tw_71 rfl hd k
theorem gp_X4_30 (C : Cx K G RX4 cc nL) {x : Int32} (hd : decode cc pc = .ok (.putfield 30, 3)) (k : WW K G cells slots Q (upd V 1 x) I J (pc + 3) lv (st)) : WW K G cells slots Q V I J (pc) lv (.int x :: .ref (G.2.1 1) :: st) := g_put C 1 (by decide) 1 tyX4 rfl rfl inT4 tyX4_ok nmX4 5 (by decide) tw_71 rfl (by decide +kernel) (Nat.le_of_ble_eq_true rfl) rfl wo_1 hd k
theorem gf_X4_34 (C : Cx K G RX4 cc nL) (hd : decode cc pc = .ok (.getfield 34, 3)) (k : WW K G cells slots Q V I J (pc + 3) lv (.int (V 2) :: st)) : WW K G cells slots Q V I J (pc) lv (.ref (G.2.1 1) :: st) := g_get C 1 (by decide) rfl rfl inT4 6 (by decide) tw_73 rfl hd k
theorem gp_X4_34 (C : Cx K G RX4 cc nL) {x : Int32} (hd : decode cc pc = .ok (.putfield 34, 3)) (k : WW K G cells slots Q (upd V 2 x) I J (pc + 3) lv (st)) : WW K G cells slots Q V I J (pc) lv (.int x :: .ref (G.2.1 1) :: st) := g_put C 1 (by decide) 2 tyX4 rfl rfl inT4 tyX4_ok nmX4 6 (by decide) tw_73 rfl (by decide +kernel) (Nat.le_of_ble_eq_true rfl) rfl wo_2 hd k
theorem gf_X5_9 (C : Cx K G RX5 cc nL) (hd : decode cc pc = .ok (.getfield 9, 3)) (k : WW K G cells slots Q V I J (pc + 3) lv (.ref (G.2.1 12) :: st)) : WW K G cells slots Q V I J (pc) lv (.ref (G.2.1 2) :: st) := g_get C 2 (by decide) rfl rfl inT5 0 (by decide) tw_97 rfl hd k
theorem gf_X5_15 (C : Cx K G RX5 cc nL) (hd : decode cc pc = .ok (.getfield 15, 3)) (k : WW K G cells slots Q V I J (pc + 3) lv (.ref (G.2.1 13) :: st)) : WW K G cells slots Q V I J (pc) lv (.ref (G.2.1 2) :: st) := g_get C 2 (by decide) rfl rfl inT5 1 (by decide) tw_99 rfl hd k
theorem gf_X5_18 (C : Cx K G RX5 cc nL) (hd : decode cc pc = .ok (.getfield 18, 3)) (k : WW K G cells slots Q V I J (pc + 3) lv (.int (V 3) :: st)) : WW K G cells slots Q V I J (pc) lv (.ref (G.2.1 2) :: st) := g_get C 2 (by decide) rfl rfl inT5 2 (by decide) tw_101 rfl hd k
theorem gp_X5_18 (C : Cx K G RX5 cc nL) {x : Int32} (hd : decode cc pc = .ok (.putfield 18, 3)) (k : WW K G cells slots Q (upd V 3 x) I J (pc + 3) lv (st)) : WW K G cells slots Q V I J (pc) lv (.int x :: .ref (G.2.1 2) :: st) := g_put C 2 (by decide) 3 tyX5 rfl rfl inT5 tyX5_ok nmX5 2 (by decide) tw_101 rfl (by decide +kernel) (Nat.le_of_ble_eq_true rfl) rfl wo_3 hd k
theorem gf_X2_9 (C : Cx K G RX2 cc nL) (hd : decode cc pc = .ok (.getfield 9, 3)) (k : WW K G cells slots Q V I J (pc + 3) lv (.ref (G.2.1 14) :: st)) : WW K G cells slots Q V I J (pc) lv (.ref (G.2.1 3) :: st) := g_get C 3 (by decide) rfl rfl inT2 0 (by decide) tw_116 rfl hd k
theorem gf_X2_15 (C : Cx K G RX2 cc nL) (hd : decode cc pc = .ok (.getfield 15, 3)) (k : WW K G cells slots Q V I J (pc + 3) lv (.ref (G.2.1 15) :: st)) : WW K G cells slots Q V I J (pc) lv (.ref (G.2.1 3) :: st) := g_get C 3 (by decide) rfl rfl inT2 1 (by decide) tw_118 rfl hd k
theorem gf_X2_18 (C : Cx K G RX2 cc nL) (hd : decode cc pc = .ok (.getfield 18, 3)) (k : WW K G cells slots Q V I J (pc + 3) lv (.ref (G.2.1 16) :: st)) : WW K G cells slots Q V I J (pc) lv (.ref (G.2.1 3) :: st) := g_get C 3 (by decide) rfl rfl inT2 2 (by decide) tw_120 rfl hd k
theorem gf_X2_21 (C : Cx K G RX2 cc nL) (hd : decode cc pc = .ok (.getfield 21, 3)) (k : WW K G cells slots Q V I J (pc + 3) lv (.ref (G.2.1 17) :: st)) : WW K G cells slots Q V I J (pc) lv (.ref (G.2.1 3) :: st) := g_get C 3 (by decide) rfl rfl inT2 3 (by decide) tw_121 rfl hd k
theorem gf_X2_24 (C : Cx K G RX2 cc nL) (hd : decode cc pc = .ok (.getfield 24, 3)) (k : WW K G cells slots Q V I J (pc + 3) lv (.ref (G.2.1 18) :: st)) : WW K G cells slots Q V I J (pc) lv (.ref (G.2.1 3) :: st) := g_get C 3 (by decide) rfl rfl inT2 4 (by decide) tw_122 rfl hd k
theorem gf_X2_27 (C : Cx K G RX2 cc nL) (hd : decode cc pc = .ok (.getfield 27, 3)) (k : WW K G cells slots Q V I J (pc + 3) lv (.int (V 4) :: st)) : WW K G cells slots Q V I J (pc) lv (.ref (G.2.1 3) :: st) := g_get C 3 (by decide) rfl rfl inT2 5 (by decide) tw_123 rfl hd k
theorem gp_X2_27 (C : Cx K G RX2 cc nL) {x : Int32} (hd : decode cc pc = .ok (.putfield 27, 3)) (k : WW K G cells slots Q (upd V 4 x) I J (pc + 3) lv (st)) : WW K G cells slots Q V I J (pc) lv (.int x :: .ref (G.2.1 3) :: st) := g_put C 3 (by decide) 4 tyX2 rfl rfl inT2 tyX2_ok nmX2 5 (by decide) tw_123 rfl (by decide +kernel) (Nat.le_of_ble_eq_true rfl) rfl wo_4 hd k
theorem gf_X3_9 (C : Cx K G RX3 cc nL) (hd : decode cc pc = .ok (.getfield 9, 3)) (k : WW K G cells slots Q V I J (pc + 3) lv (.ref (G.2.1 19) :: st)) : WW K G cells slots Q V I J (pc) lv (.ref (G.2.1 4) :: st) := g_get C 4 (by decide) rfl rfl inT3 0 (by decide) tw_144 rfl hd k
theorem gf_X3_15 (C : Cx K G RX3 cc nL) (hd : decode cc pc = .ok (.getfield 15, 3)) (k : WW K G cells slots Q V I J (pc + 3) lv (.ref (G.2.1 20) :: st)) : WW K G cells slots Q V I J (pc) lv (.ref (G.2.1 4) :: st) := g_get C 4 (by decide) rfl rfl inT3 1 (by decide) tw_146 rfl hd k
theorem gf_X3_18 (C : Cx K G RX3 cc nL) (hd : decode cc pc = .ok (.getfield 18, 3)) (k : WW K G cells slots Q V I J (pc + 3) lv (.ref (G.2.1 21) :: st)) : WW K G cells slots Q V I J (pc) lv (.ref (G.2.1 4) :: st) := g_get C 4 (by decide) rfl rfl inT3 2 (by decide) tw_148 rfl hd k
theorem gf_X3_21 (C : Cx K G RX3 cc nL) (hd : decode cc pc = .ok (.getfield 21, 3)) (k : WW K G cells slots Q V I J (pc + 3) lv (.ref (G.2.1 22) :: st)) : WW K G cells slots Q V I J (pc) lv (.ref (G.2.1 4) :: st) := g_get C 4 (by decide) rfl rfl inT3 3 (by decide) tw_150 rfl hd k
theorem gf_X3_25 (C : Cx K G RX3 cc nL) (hd : decode cc pc = .ok (.getfield 25, 3)) (k : WW K G cells slots Q V I J (pc + 3) lv (.ref (G.2.1 23) :: st)) : WW K G cells slots Q V I J (pc) lv (.ref (G.2.1 4) :: st) := g_get C 4 (by decide) rfl rfl inT3 4 (by decide) tw_152 rfl hd k
theorem gf_X3_28 (C : Cx K G RX3 cc nL) (hd : decode cc pc = .ok (.getfield 28, 3)) (k : WW K G cells slots Q V I J (pc + 3) lv (.int (V 5) :: st)) : WW K G cells slots Q V I J (pc) lv (.ref (G.2.1 4) :: st) := g_get C 4 (by decide) rfl rfl inT3 5 (by decide) tw_154 rfl hd k
theorem gp_X3_28 (C : Cx K G RX3 cc nL) {x : Int32} (hd : decode cc pc = .ok (.putfield 28, 3)) (k : WW K G cells slots Q (upd V 5 x) I J (pc + 3) lv (st)) : WW K G cells slots Q V I J (pc) lv (.int x :: .ref (G.2.1 4) :: st) := g_put C 4 (by decide) 5 tyX3 rfl rfl inT3 tyX3_ok nmX3 5 (by decide) tw_154 rfl (by decide +kernel) (Nat.le_of_ble_eq_true rfl) rfl wo_5 hd k
theorem gf_X1_9 (C : Cx K G RX1 cc nL) (hd : decode cc pc = .ok (.getfield 9, 3)) (k : WW K G cells slots Q V I J (pc + 3) lv (.ref (G.2.1 24) :: st)) : WW K G cells slots Q V I J (pc) lv (.ref (G.2.1 5) :: st) := g_get C 5 (by decide) rfl rfl inT1 0 (by decide) tw_177 rfl hd k
theorem gf_X1_15 (C : Cx K G RX1 cc nL) (hd : decode cc pc = .ok (.getfield 15, 3)) (k : WW K G cells slots Q V I J (pc + 3) lv (.ref (G.2.1 25) :: st)) : WW K G cells slots Q V I J (pc) lv (.ref (G.2.1 5) :: st) := g_get C 5 (by decide) rfl rfl inT1 1 (by decide) tw_179 rfl hd k
theorem gf_X1_18 (C : Cx K G RX1 cc nL) (hd : decode cc pc = .ok (.getfield 18, 3)) (k : WW K G cells slots Q V I J (pc + 3) lv (.ref (G.2.1 26) :: st)) : WW K G cells slots Q V I J (pc) lv (.ref (G.2.1 5) :: st) := g_get C 5 (by decide) rfl rfl inT1 2 (by decide) tw_181 rfl hd k
theorem gf_X1_23 (C : Cx K G RX1 cc nL) (hd : decode cc pc = .ok (.getfield 23, 3)) (k : WW K G cells slots Q V I J (pc + 3) lv (.ref (G.2.1 34) :: st)) : WW K G cells slots Q V I J (pc) lv (.ref (G.2.1 5) :: st) := g_get C 5 (by decide) rfl rfl inT1 3 (by decide) tw_183 rfl hd k
theorem gf_X1_26 (C : Cx K G RX1 cc nL) (hd : decode cc pc = .ok (.getfield 26, 3)) (k : WW K G cells slots Q V I J (pc + 3) lv (.ref (G.2.1 27) :: st)) : WW K G cells slots Q V I J (pc) lv (.ref (G.2.1 5) :: st) := g_get C 5 (by decide) rfl rfl inT1 4 (by decide) tw_184 rfl hd k
theorem gf_X1_29 (C : Cx K G RX1 cc nL) (hd : decode cc pc = .ok (.getfield 29, 3)) (k : WW K G cells slots Q V I J (pc + 3) lv (.ref (G.2.1 28) :: st)) : WW K G cells slots Q V I J (pc) lv (.ref (G.2.1 5) :: st) := g_get C 5 (by decide) rfl rfl inT1 5 (by decide) tw_186 rfl hd k
theorem gf_X1_33 (C : Cx K G RX1 cc nL) (hd : decode cc pc = .ok (.getfield 33, 3)) (k : WW K G cells slots Q V I J (pc + 3) lv (.int (V 6) :: st)) : WW K G cells slots Q V I J (pc) lv (.ref (G.2.1 5) :: st) := g_get C 5 (by decide) rfl rfl inT1 6 (by decide) tw_188 rfl hd k
theorem gp_X1_33 (C : Cx K G RX1 cc nL) {x : Int32} (hd : decode cc pc = .ok (.putfield 33, 3)) (k : WW K G cells slots Q (upd V 6 x) I J (pc + 3) lv (st)) : WW K G cells slots Q V I J (pc) lv (.int x :: .ref (G.2.1 5) :: st) := g_put C 5 (by decide) 6 tyX1 rfl rfl inT1 tyX1_ok nmX1 6 (by decide) tw_188 rfl (by decide +kernel) (Nat.le_of_ble_eq_true rfl) rfl wo_6 hd k
theorem gf_X0_9 (C : Cx K G RX0 cc nL) (hd : decode cc pc = .ok (.getfield 9, 3)) (k : WW K G cells slots Q V I J (pc + 3) lv (.ref (G.2.1 29) :: st)) : WW K G cells slots Q V I J (pc) lv (.ref (G.2.1 6) :: st) := g_get C 6 (by decide) rfl rfl inT0 0 (by decide) tw_211 rfl hd k
theorem gf_X0_15 (C : Cx K G RX0 cc nL) (hd : decode cc pc = .ok (.getfield 15, 3)) (k : WW K G cells slots Q V I J (pc + 3) lv (.ref (G.2.1 30) :: st)) : WW K G cells slots Q V I J (pc) lv (.ref (G.2.1 6) :: st) := g_get C 6 (by decide) rfl rfl inT0 1 (by decide) tw_213 rfl hd k
theorem gf_X0_18 (C : Cx K G RX0 cc nL) (hd : decode cc pc = .ok (.getfield 18, 3)) (k : WW K G cells slots Q V I J (pc + 3) lv (.ref (G.2.1 31) :: st)) : WW K G cells slots Q V I J (pc) lv (.ref (G.2.1 6) :: st) := g_get C 6 (by decide) rfl rfl inT0 2 (by decide) tw_215 rfl hd k
theorem gf_X0_21 (C : Cx K G RX0 cc nL) (hd : decode cc pc = .ok (.getfield 21, 3)) (k : WW K G cells slots Q V I J (pc + 3) lv (.ref (G.2.1 32) :: st)) : WW K G cells slots Q V I J (pc) lv (.ref (G.2.1 6) :: st) := g_get C 6 (by decide) rfl rfl inT0 3 (by decide) tw_217 rfl hd k
theorem gf_X6_10 (C : Cx K G RX6 cc nL) (hd : decode cc pc = .ok (.getfield 10, 3)) (k : WW K G cells slots Q V I J (pc + 3) lv (.ref (G.2.1 1) :: st)) : WW K G cells slots Q V I J (pc) lv (.ref (G.2.1 0) :: st) := g_get C 0 (by decide) rfl rfl inT6 0 (by decide) tw_229 rfl hd k
theorem gf_X6_19 (C : Cx K G RX6 cc nL) (hd : decode cc pc = .ok (.getfield 19, 3)) (k : WW K G cells slots Q V I J (pc + 3) lv (.ref (G.2.1 2) :: st)) : WW K G cells slots Q V I J (pc) lv (.ref (G.2.1 0) :: st) := g_get C 0 (by decide) rfl rfl inT6 1 (by decide) tw_230 rfl hd k
theorem gf_X6_26 (C : Cx K G RX6 cc nL) (hd : decode cc pc = .ok (.getfield 26, 3)) (k : WW K G cells slots Q V I J (pc + 3) lv (.ref (G.2.1 3) :: st)) : WW K G cells slots Q V I J (pc) lv (.ref (G.2.1 0) :: st) := g_get C 0 (by decide) rfl rfl inT6 2 (by decide) tw_231 rfl hd k
theorem gf_X6_33 (C : Cx K G RX6 cc nL) (hd : decode cc pc = .ok (.getfield 33, 3)) (k : WW K G cells slots Q V I J (pc + 3) lv (.ref (G.2.1 4) :: st)) : WW K G cells slots Q V I J (pc) lv (.ref (G.2.1 0) :: st) := g_get C 0 (by decide) rfl rfl inT6 3 (by decide) tw_232 rfl hd k
theorem gf_X6_40 (C : Cx K G RX6 cc nL) (hd : decode cc pc = .ok (.getfield 40, 3)) (k : WW K G cells slots Q V I J (pc + 3) lv (.ref (G.2.1 5) :: st)) : WW K G cells slots Q V I J (pc) lv (.ref (G.2.1 0) :: st) := g_get C 0 (by decide) rfl rfl inT6 4 (by decide) tw_233 rfl hd k
theorem gf_X6_47 (C : Cx K G RX6 cc nL) (hd : decode cc pc = .ok (.getfield 47, 3)) (k : WW K G cells slots Q V I J (pc + 3) lv (.ref (G.2.1 6) :: st)) : WW K G cells slots Q V I J (pc) lv (.ref (G.2.1 0) :: st) := g_get C 0 (by decide) rfl rfl inT6 5 (by decide) tw_234 rfl hd k
theorem gf_X6_51 (C : Cx K G RX6 cc nL) (hd : decode cc pc = .ok (.getfield 51, 3)) (k : WW K G cells slots Q V I J (pc + 3) lv (.int (V 0) :: st)) : WW K G cells slots Q V I J (pc) lv (.ref (G.2.1 0) :: st) := g_get C 0 (by decide) rfl rfl inT6 6 (by decide) tw_235 rfl hd k
theorem gp_X6_51 (C : Cx K G RX6 cc nL) {x : Int32} (hd : decode cc pc = .ok (.putfield 51, 3)) (k : WW K G cells slots Q (upd V 0 x) I J (pc + 3) lv (st)) : WW K G cells slots Q V I J (pc) lv (.int x :: .ref (G.2.1 0) :: st) := g_put C 0 (by decide) 0 tyX6 rfl rfl inT6 tyX6_ok nmX6 6 (by decide) tw_235 rfl (by decide +kernel) (Nat.le_of_ble_eq_true rfl) rfl wo_0 hd k
theorem gf_X7_103 (C : Cx K G RX7 cc nL) (hd : decode cc pc = .ok (.getfield 103, 3)) (k : WW K G cells slots Q V I J (pc + 3) lv (.int (V 7) :: st)) : WW K G cells slots Q V I J (pc) lv (.ref (G.2.1 7) :: st) := g_get C 7 (by decide) rfl rfl inT7 0 (by decide) tw_686 rfl hd k
theorem gp_X7_103 (C : Cx K G RX7 cc nL) {x : Int32} (hd : decode cc pc = .ok (.putfield 103, 3)) (k : WW K G cells slots Q (upd V 7 x) I J (pc + 3) lv (st)) : WW K G cells slots Q V I J (pc) lv (.int x :: .ref (G.2.1 7) :: st) := g_put C 7 (by decide) 7 tyX7 rfl rfl inT7 tyX7_ok nmX7 0 (by decide) tw_686 rfl (by decide +kernel) (Nat.le_of_ble_eq_true rfl) rfl wo_7 hd k
theorem gf_X7_141 (C : Cx K G RX7 cc nL) (hd : decode cc pc = .ok (.getfield 141, 3)) (k : WW K G cells slots Q V I J (pc + 3) lv (.int (V 8) :: st)) : WW K G cells slots Q V I J (pc) lv (.ref (G.2.1 7) :: st) := g_get C 7 (by decide) rfl rfl inT7 1 (by decide) tw_687 rfl hd k
theorem gp_X7_141 (C : Cx K G RX7 cc nL) {x : Int32} (hd : decode cc pc = .ok (.putfield 141, 3)) (k : WW K G cells slots Q (upd V 8 x) I J (pc + 3) lv (st)) : WW K G cells slots Q V I J (pc) lv (.int x :: .ref (G.2.1 7) :: st) := g_put C 7 (by decide) 8 tyX7 rfl rfl inT7 tyX7_ok nmX7 1 (by decide) tw_687 rfl (by decide +kernel) (Nat.le_of_ble_eq_true rfl) rfl wo_8 hd k
theorem gf_X7_106 (C : Cx K G RX7 cc nL) (hd : decode cc pc = .ok (.getfield 106, 3)) (k : WW K G cells slots Q V I J (pc + 3) lv (.int (V 9) :: st)) : WW K G cells slots Q V I J (pc) lv (.ref (G.2.1 7) :: st) := g_get C 7 (by decide) rfl rfl inT7 2 (by decide) tw_688 rfl hd k
theorem gp_X7_106 (C : Cx K G RX7 cc nL) {x : Int32} (hd : decode cc pc = .ok (.putfield 106, 3)) (k : WW K G cells slots Q (upd V 9 x) I J (pc + 3) lv (st)) : WW K G cells slots Q V I J (pc) lv (.int x :: .ref (G.2.1 7) :: st) := g_put C 7 (by decide) 9 tyX7 rfl rfl inT7 tyX7_ok nmX7 2 (by decide) tw_688 rfl (by decide +kernel) (Nat.le_of_ble_eq_true rfl) rfl wo_9 hd k
theorem gf_X7_117 (C : Cx K G RX7 cc nL) (hd : decode cc pc = .ok (.getfield 117, 3)) (k : WW K G cells slots Q V I J (pc + 3) lv (.int (V 10) :: st)) : WW K G cells slots Q V I J (pc) lv (.ref (G.2.1 7) :: st) := g_get C 7 (by decide) rfl rfl inT7 3 (by decide) tw_689 rfl hd k
theorem gp_X7_117 (C : Cx K G RX7 cc nL) {x : Int32} (hd : decode cc pc = .ok (.putfield 117, 3)) (k : WW K G cells slots Q (upd V 10 x) I J (pc + 3) lv (st)) : WW K G cells slots Q V I J (pc) lv (.int x :: .ref (G.2.1 7) :: st) := g_put C 7 (by decide) 10 tyX7 rfl rfl inT7 tyX7_ok nmX7 3 (by decide) tw_689 rfl (by decide +kernel) (Nat.le_of_ble_eq_true rfl) rfl wo_10 hd k
theorem gf_X7_7 (C : Cx K G RX7 cc nL) (hd : decode cc pc = .ok (.getfield 7, 3)) (k : WW K G cells slots Q V I J (pc + 3) lv (.ref (G.2.1 51) :: st)) : WW K G cells slots Q V I J (pc) lv (.ref (G.2.1 7) :: st) := g_get C 7 (by decide) rfl rfl inT7 4 (by decide) tw_690 rfl hd k
theorem gf_X7_13 (C : Cx K G RX7 cc nL) (hd : decode cc pc = .ok (.getfield 13, 3)) (k : WW K G cells slots Q V I J (pc + 3) lv (.ref (G.2.1 52) :: st)) : WW K G cells slots Q V I J (pc) lv (.ref (G.2.1 7) :: st) := g_get C 7 (by decide) rfl rfl inT7 5 (by decide) tw_691 rfl hd k
theorem gf_X7_16 (C : Cx K G RX7 cc nL) (hd : decode cc pc = .ok (.getfield 16, 3)) (k : WW K G cells slots Q V I J (pc + 3) lv (.ref (G.2.1 53) :: st)) : WW K G cells slots Q V I J (pc) lv (.ref (G.2.1 7) :: st) := g_get C 7 (by decide) rfl rfl inT7 6 (by decide) tw_692 rfl hd k
theorem gf_X7_19 (C : Cx K G RX7 cc nL) (hd : decode cc pc = .ok (.getfield 19, 3)) (k : WW K G cells slots Q V I J (pc + 3) lv (.ref (G.2.1 54) :: st)) : WW K G cells slots Q V I J (pc) lv (.ref (G.2.1 7) :: st) := g_get C 7 (by decide) rfl rfl inT7 7 (by decide) tw_693 rfl hd k
theorem gf_X7_22 (C : Cx K G RX7 cc nL) (hd : decode cc pc = .ok (.getfield 22, 3)) (k : WW K G cells slots Q V I J (pc + 3) lv (.ref (G.2.1 55) :: st)) : WW K G cells slots Q V I J (pc) lv (.ref (G.2.1 7) :: st) := g_get C 7 (by decide) rfl rfl inT7 8 (by decide) tw_694 rfl hd k
theorem gf_X7_25 (C : Cx K G RX7 cc nL) (hd : decode cc pc = .ok (.getfield 25, 3)) (k : WW K G cells slots Q V I J (pc + 3) lv (.ref (G.2.1 56) :: st)) : WW K G cells slots Q V I J (pc) lv (.ref (G.2.1 7) :: st) := g_get C 7 (by decide) rfl rfl inT7 9 (by decide) tw_695 rfl hd k
theorem gf_X7_28 (C : Cx K G RX7 cc nL) (hd : decode cc pc = .ok (.getfield 28, 3)) (k : WW K G cells slots Q V I J (pc + 3) lv (.ref (G.2.1 57) :: st)) : WW K G cells slots Q V I J (pc) lv (.ref (G.2.1 7) :: st) := g_get C 7 (by decide) rfl rfl inT7 10 (by decide) tw_696 rfl hd k
theorem gf_X7_31 (C : Cx K G RX7 cc nL) (hd : decode cc pc = .ok (.getfield 31, 3)) (k : WW K G cells slots Q V I J (pc + 3) lv (.int (V 11) :: st)) : WW K G cells slots Q V I J (pc) lv (.ref (G.2.1 7) :: st) := g_get C 7 (by decide) rfl rfl inT7 11 (by decide) tw_697 rfl hd k
theorem gp_X7_31 (C : Cx K G RX7 cc nL) {x : Int32} (hd : decode cc pc = .ok (.putfield 31, 3)) (k : WW K G cells slots Q (upd V 11 x) I J (pc + 3) lv (st)) : WW K G cells slots Q V I J (pc) lv (.int x :: .ref (G.2.1 7) :: st) := g_put C 7 (by decide) 11 tyX7 rfl rfl inT7 tyX7_ok nmX7 11 (by decide) tw_697 rfl (by decide +kernel) (Nat.le_of_ble_eq_true rfl) rfl wo_11 hd k
theorem gf_X7_35 (C : Cx K G RX7 cc nL) (hd : decode cc pc = .ok (.getfield 35, 3)) (k : WW K G cells slots Q V I J (pc + 3) lv (.ref (G.2.1 58) :: st)) : WW K G cells slots Q V I J (pc) lv (.ref (G.2.1 7) :: st) := g_get C 7 (by decide) rfl rfl inT7 12 (by decide) tw_698 rfl hd k
theorem gf_X7_38 (C : Cx K G RX7 cc nL) (hd : decode cc pc = .ok (.getfield 38, 3)) (k : WW K G cells slots Q V I J (pc + 3) lv (.ref (G.2.1 59) :: st)) : WW K G cells slots Q V I J (pc) lv (.ref (G.2.1 7) :: st) := g_get C 7 (by decide) rfl rfl inT7 13 (by decide) tw_699 rfl hd k
theorem gf_X7_41 (C : Cx K G RX7 cc nL) (hd : decode cc pc = .ok (.getfield 41, 3)) (k : WW K G cells slots Q V I J (pc + 3) lv (.ref (G.2.1 60) :: st)) : WW K G cells slots Q V I J (pc) lv (.ref (G.2.1 7) :: st) := g_get C 7 (by decide) rfl rfl inT7 14 (by decide) tw_700 rfl hd k
theorem gf_X7_45 (C : Cx K G RX7 cc nL) (hd : decode cc pc = .ok (.getfield 45, 3)) (k : WW K G cells slots Q V I J (pc + 3) lv (.ref (G.2.1 61) :: st)) : WW K G cells slots Q V I J (pc) lv (.ref (G.2.1 7) :: st) := g_get C 7 (by decide) rfl rfl inT7 15 (by decide) tw_701 rfl hd k
theorem gf_X7_48 (C : Cx K G RX7 cc nL) (hd : decode cc pc = .ok (.getfield 48, 3)) (k : WW K G cells slots Q V I J (pc + 3) lv (.ref (G.2.1 62) :: st)) : WW K G cells slots Q V I J (pc) lv (.ref (G.2.1 7) :: st) := g_get C 7 (by decide) rfl rfl inT7 16 (by decide) tw_702 rfl hd k
theorem gf_X7_51 (C : Cx K G RX7 cc nL) (hd : decode cc pc = .ok (.getfield 51, 3)) (k : WW K G cells slots Q V I J (pc + 3) lv (.ref (G.2.1 63) :: st)) : WW K G cells slots Q V I J (pc) lv (.ref (G.2.1 7) :: st) := g_get C 7 (by decide) rfl rfl inT7 17 (by decide) tw_703 rfl hd k
theorem gf_X7_138 (C : Cx K G RX7 cc nL) (hd : decode cc pc = .ok (.getfield 138, 3)) (k : WW K G cells slots Q V I J (pc + 3) lv (.int (V 12) :: st)) : WW K G cells slots Q V I J (pc) lv (.ref (G.2.1 7) :: st) := g_get C 7 (by decide) rfl rfl inT7 18 (by decide) tw_704 rfl hd k
theorem gp_X7_138 (C : Cx K G RX7 cc nL) {x : Int32} (hd : decode cc pc = .ok (.putfield 138, 3)) (k : WW K G cells slots Q (upd V 12 x) I J (pc + 3) lv (st)) : WW K G cells slots Q V I J (pc) lv (.int x :: .ref (G.2.1 7) :: st) := g_put C 7 (by decide) 12 tyX7 rfl rfl inT7 tyX7_ok nmX7 18 (by decide) tw_704 rfl (by decide +kernel) (Nat.le_of_ble_eq_true rfl) rfl wo_12 hd k
theorem gf_X7_54 (C : Cx K G RX7 cc nL) (hd : decode cc pc = .ok (.getfield 54, 3)) (k : WW K G cells slots Q V I J (pc + 3) lv (.ref (G.2.1 64) :: st)) : WW K G cells slots Q V I J (pc) lv (.ref (G.2.1 7) :: st) := g_get C 7 (by decide) rfl rfl inT7 19 (by decide) tw_705 rfl hd k
theorem gf_X7_57 (C : Cx K G RX7 cc nL) (hd : decode cc pc = .ok (.getfield 57, 3)) (k : WW K G cells slots Q V I J (pc + 3) lv (.ref (G.2.1 65) :: st)) : WW K G cells slots Q V I J (pc) lv (.ref (G.2.1 7) :: st) := g_get C 7 (by decide) rfl rfl inT7 20 (by decide) tw_706 rfl hd k
theorem gf_X7_60 (C : Cx K G RX7 cc nL) (hd : decode cc pc = .ok (.getfield 60, 3)) (k : WW K G cells slots Q V I J (pc + 3) lv (.ref (G.2.1 66) :: st)) : WW K G cells slots Q V I J (pc) lv (.ref (G.2.1 7) :: st) := g_get C 7 (by decide) rfl rfl inT7 21 (by decide) tw_707 rfl hd k
theorem gf_X7_113 (C : Cx K G RX7 cc nL) (hd : decode cc pc = .ok (.getfield 113, 3)) (k : WW K G cells slots Q V I J (pc + 3) lv (.int (V 13) :: st)) : WW K G cells slots Q V I J (pc) lv (.ref (G.2.1 7) :: st) := g_get C 7 (by decide) rfl rfl inT7 22 (by decide) tw_708 rfl hd k
theorem gp_X7_113 (C : Cx K G RX7 cc nL) {x : Int32} (hd : decode cc pc = .ok (.putfield 113, 3)) (k : WW K G cells slots Q (upd V 13 x) I J (pc + 3) lv (st)) : WW K G cells slots Q V I J (pc) lv (.int x :: .ref (G.2.1 7) :: st) := g_put C 7 (by decide) 13 tyX7 rfl rfl inT7 tyX7_ok nmX7 22 (by decide) tw_708 rfl (by decide +kernel) (Nat.le_of_ble_eq_true rfl) rfl wo_13 hd k
theorem gf_X7_63 (C : Cx K G RX7 cc nL) (hd : decode cc pc = .ok (.getfield 63, 3)) (k : WW K G cells slots Q V I J (pc + 3) lv (.ref (G.2.1 67) :: st)) : WW K G cells slots Q V I J (pc) lv (.ref (G.2.1 7) :: st) := g_get C 7 (by decide) rfl rfl inT7 23 (by decide) tw_709 rfl hd k
theorem gf_X7_66 (C : Cx K G RX7 cc nL) (hd : decode cc pc = .ok (.getfield 66, 3)) (k : WW K G cells slots Q V I J (pc + 3) lv (.ref (G.2.1 68) :: st)) : WW K G cells slots Q V I J (pc) lv (.ref (G.2.1 7) :: st) := g_get C 7 (by decide) rfl rfl inT7 24 (by decide) tw_710 rfl hd k
theorem gf_X7_69 (C : Cx K G RX7 cc nL) (hd : decode cc pc = .ok (.getfield 69, 3)) (k : WW K G cells slots Q V I J (pc + 3) lv (.ref (G.2.1 69) :: st)) : WW K G cells slots Q V I J (pc) lv (.ref (G.2.1 7) :: st) := g_get C 7 (by decide) rfl rfl inT7 25 (by decide) tw_711 rfl hd k
theorem gf_X7_72 (C : Cx K G RX7 cc nL) (hd : decode cc pc = .ok (.getfield 72, 3)) (k : WW K G cells slots Q V I J (pc + 3) lv (.ref (G.2.1 70) :: st)) : WW K G cells slots Q V I J (pc) lv (.ref (G.2.1 7) :: st) := g_get C 7 (by decide) rfl rfl inT7 26 (by decide) tw_712 rfl hd k
theorem gf_X7_76 (C : Cx K G RX7 cc nL) (hd : decode cc pc = .ok (.getfield 76, 3)) (k : WW K G cells slots Q V I J (pc + 3) lv (.ref (G.2.1 71) :: st)) : WW K G cells slots Q V I J (pc) lv (.ref (G.2.1 7) :: st) := g_get C 7 (by decide) rfl rfl inT7 27 (by decide) tw_713 rfl hd k
theorem gf_X7_79 (C : Cx K G RX7 cc nL) (hd : decode cc pc = .ok (.getfield 79, 3)) (k : WW K G cells slots Q V I J (pc + 3) lv (.ref (G.2.1 72) :: st)) : WW K G cells slots Q V I J (pc) lv (.ref (G.2.1 7) :: st) := g_get C 7 (by decide) rfl rfl inT7 28 (by decide) tw_714 rfl hd k
theorem gf_X7_82 (C : Cx K G RX7 cc nL) (hd : decode cc pc = .ok (.getfield 82, 3)) (k : WW K G cells slots Q V I J (pc + 3) lv (.ref (G.2.1 73) :: st)) : WW K G cells slots Q V I J (pc) lv (.ref (G.2.1 7) :: st) := g_get C 7 (by decide) rfl rfl inT7 29 (by decide) tw_715 rfl hd k
theorem gf_X7_159 (C : Cx K G RX7 cc nL) (hd : decode cc pc = .ok (.getfield 159, 3)) (k : WW K G cells slots Q V I J (pc + 3) lv (.int (V 14) :: st)) : WW K G cells slots Q V I J (pc) lv (.ref (G.2.1 7) :: st) := g_get C 7 (by decide) rfl rfl inT7 30 (by decide) tw_716 rfl hd k
theorem gp_X7_159 (C : Cx K G RX7 cc nL) {x : Int32} (hd : decode cc pc = .ok (.putfield 159, 3)) (k : WW K G cells slots Q (upd V 14 x) I J (pc + 3) lv (st)) : WW K G cells slots Q V I J (pc) lv (.int x :: .ref (G.2.1 7) :: st) := g_put C 7 (by decide) 14 tyX7 rfl rfl inT7 tyX7_ok nmX7 30 (by decide) tw_716 rfl (by decide +kernel) (Nat.le_of_ble_eq_true rfl) rfl wo_14 hd k
theorem gf_X7_85 (C : Cx K G RX7 cc nL) (hd : decode cc pc = .ok (.getfield 85, 3)) (k : WW K G cells slots Q V I J (pc + 3) lv (.ref (G.2.1 74) :: st)) : WW K G cells slots Q V I J (pc) lv (.ref (G.2.1 7) :: st) := g_get C 7 (by decide) rfl rfl inT7 31 (by decide) tw_717 rfl hd k
theorem gf_X7_88 (C : Cx K G RX7 cc nL) (hd : decode cc pc = .ok (.getfield 88, 3)) (k : WW K G cells slots Q V I J (pc + 3) lv (.ref (G.2.1 75) :: st)) : WW K G cells slots Q V I J (pc) lv (.ref (G.2.1 7) :: st) := g_get C 7 (by decide) rfl rfl inT7 32 (by decide) tw_718 rfl hd k
theorem gf_X7_91 (C : Cx K G RX7 cc nL) (hd : decode cc pc = .ok (.getfield 91, 3)) (k : WW K G cells slots Q V I J (pc + 3) lv (.ref (G.2.1 76) :: st)) : WW K G cells slots Q V I J (pc) lv (.ref (G.2.1 7) :: st) := g_get C 7 (by decide) rfl rfl inT7 33 (by decide) tw_719 rfl hd k
theorem gf_X7_94 (C : Cx K G RX7 cc nL) (hd : decode cc pc = .ok (.getfield 94, 3)) (k : WW K G cells slots Q V I J (pc + 3) lv (.ref (G.2.1 77) :: st)) : WW K G cells slots Q V I J (pc) lv (.ref (G.2.1 7) :: st) := g_get C 7 (by decide) rfl rfl inT7 34 (by decide) tw_720 rfl hd k
theorem gf_X7_97 (C : Cx K G RX7 cc nL) (hd : decode cc pc = .ok (.getfield 97, 3)) (k : WW K G cells slots Q V I J (pc + 3) lv (.ref (G.2.1 78) :: st)) : WW K G cells slots Q V I J (pc) lv (.ref (G.2.1 7) :: st) := g_get C 7 (by decide) rfl rfl inT7 35 (by decide) tw_721 rfl hd k
theorem gf_X7_100 (C : Cx K G RX7 cc nL) (hd : decode cc pc = .ok (.getfield 100, 3)) (k : WW K G cells slots Q V I J (pc + 3) lv (.ref (G.2.1 79) :: st)) : WW K G cells slots Q V I J (pc) lv (.ref (G.2.1 7) :: st) := g_get C 7 (by decide) rfl rfl inT7 36 (by decide) tw_722 rfl hd k
theorem gf_X6_284 (C : Cx K G RX6 cc nL) (hd : decode cc pc = .ok (.getfield 284, 3)) (k : WW K G cells slots Q V I J (pc + 3) lv (.ref (G.2.1 10) :: st)) : WW K G cells slots Q V I J (pc) lv (.ref (G.2.1 1) :: st) := g_getN C 1 (by decide) rfl rfl inT4 2 (by decide) (List.mem_of_getElem? (i := 0) rfl) rfl hd k
theorem gf_X6_290 (C : Cx K G RX6 cc nL) (hd : decode cc pc = .ok (.getfield 290, 3)) (k : WW K G cells slots Q V I J (pc + 3) lv (.ref (G.2.1 11) :: st)) : WW K G cells slots Q V I J (pc) lv (.ref (G.2.1 1) :: st) := g_getN C 1 (by decide) rfl rfl inT4 3 (by decide) (List.mem_of_getElem? (i := 1) rfl) rfl hd k
theorem gf_X6_171 (C : Cx K G RX6 cc nL) (hd : decode cc pc = .ok (.getfield 171, 3)) (k : WW K G cells slots Q V I J (pc + 3) lv (.ref (G.2.1 33) :: st)) : WW K G cells slots Q V I J (pc) lv (.ref (G.2.1 1) :: st) := g_getN C 1 (by decide) rfl rfl inT4 4 (by decide) (List.mem_of_getElem? (i := 2) rfl) rfl hd k
theorem gf_X6_55 (C : Cx K G RX6 cc nL) (hd : decode cc pc = .ok (.getfield 55, 3)) (k : WW K G cells slots Q V I J (pc + 3) lv (.int (V 1) :: st)) : WW K G cells slots Q V I J (pc) lv (.ref (G.2.1 1) :: st) := g_getN C 1 (by decide) rfl rfl inT4 5 (by decide) (List.mem_of_getElem? (i := 3) rfl) rfl hd k
theorem gp_X6_55 (C : Cx K G RX6 cc nL) {x : Int32} (hd : decode cc pc = .ok (.putfield 55, 3)) (k : WW K G cells slots Q (upd V 1 x) I J (pc + 3) lv (st)) : WW K G cells slots Q V I J (pc) lv (.int x :: .ref (G.2.1 1) :: st) := g_putN C 1 (by decide) 1 tyX4 rfl rfl inT4 tyX4_ok nmX4 5 (by decide) (List.mem_of_getElem? (i := 3) rfl) rfl (by decide +kernel) (Nat.le_of_ble_eq_true rfl) rfl wo_1 hd k
theorem gf_X6_82 (C : Cx K G RX6 cc nL) (hd : decode cc pc = .ok (.getfield 82, 3)) (k : WW K G cells slots Q V I J (pc + 3) lv (.int (V 2) :: st)) : WW K G cells slots Q V I J (pc) lv (.ref (G.2.1 1) :: st) := g_getN C 1 (by decide) rfl rfl inT4 6 (by decide) (List.mem_of_getElem? (i := 4) rfl) rfl hd k
theorem gp_X6_82 (C : Cx K G RX6 cc nL) {x : Int32} (hd : decode cc pc = .ok (.putfield 82, 3)) (k : WW K G cells slots Q (upd V 2 x) I J (pc + 3) lv (st)) : WW K G cells slots Q V I J (pc) lv (.int x :: .ref (G.2.1 1) :: st) := g_putN C 1 (by decide) 2 tyX4 rfl rfl inT4 tyX4_ok nmX4 6 (by decide) (List.mem_of_getElem? (i := 4) rfl) rfl (by decide +kernel) (Nat.le_of_ble_eq_true rfl) rfl wo_2 hd k
theorem gf_X6_91 (C : Cx K G RX6 cc nL) (hd : decode cc pc = .ok (.getfield 91, 3)) (k : WW K G cells slots Q V I J (pc + 3) lv (.ref (G.2.1 12) :: st)) : WW K G cells slots Q V I J (pc) lv (.ref (G.2.1 2) :: st) := g_getN C 2 (by decide) rfl rfl inT5 0 (by decide) (List.mem_of_getElem? (i := 5) rfl) rfl hd k
theorem gf_X6_95 (C : Cx K G RX6 cc nL) (hd : decode cc pc = .ok (.getfield 95, 3)) (k : WW K G cells slots Q V I J (pc + 3) lv (.ref (G.2.1 13) :: st)) : WW K G cells slots Q V I J (pc) lv (.ref (G.2.1 2) :: st) := g_getN C 2 (by decide) rfl rfl inT5 1 (by decide) (List.mem_of_getElem? (i := 6) rfl) rfl hd k
theorem gf_X6_99 (C : Cx K G RX6 cc nL) (hd : decode cc pc = .ok (.getfield 99, 3)) (k : WW K G cells slots Q V I J (pc + 3) lv (.int (V 3) :: st)) : WW K G cells slots Q V I J (pc) lv (.ref (G.2.1 2) :: st) := g_getN C 2 (by decide) rfl rfl inT5 2 (by decide) (List.mem_of_getElem? (i := 7) rfl) rfl hd k
theorem gp_X6_99 (C : Cx K G RX6 cc nL) {x : Int32} (hd : decode cc pc = .ok (.putfield 99, 3)) (k : WW K G cells slots Q (upd V 3 x) I J (pc + 3) lv (st)) : WW K G cells slots Q V I J (pc) lv (.int x :: .ref (G.2.1 2) :: st) := g_putN C 2 (by decide) 3 tyX5 rfl rfl inT5 tyX5_ok nmX5 2 (by decide) (List.mem_of_getElem? (i := 7) rfl) rfl (by decide +kernel) (Nat.le_of_ble_eq_true rfl) rfl wo_3 hd k
theorem gf_X6_105 (C : Cx K G RX6 cc nL) (hd : decode cc pc = .ok (.getfield 105, 3)) (k : WW K G cells slots Q V I J (pc + 3) lv (.ref (G.2.1 14) :: st)) : WW K G cells slots Q V I J (pc) lv (.ref (G.2.1 3) :: st) := g_getN C 3 (by decide) rfl rfl inT2 0 (by decide) (List.mem_of_getElem? (i := 8) rfl) rfl hd k
theorem gf_X6_108 (C : Cx K G RX6 cc nL) (hd : decode cc pc = .ok (.getfield 108, 3)) (k : WW K G cells slots Q V I J (pc + 3) lv (.ref (G.2.1 15) :: st)) : WW K G cells slots Q V I J (pc) lv (.ref (G.2.1 3) :: st) := g_getN C 3 (by decide) rfl rfl inT2 1 (by decide) (List.mem_of_getElem? (i := 9) rfl) rfl hd k
theorem gf_X6_118 (C : Cx K G RX6 cc nL) (hd : decode cc pc = .ok (.getfield 118, 3)) (k : WW K G cells slots Q V I J (pc + 3) lv (.int (V 4) :: st)) : WW K G cells slots Q V I J (pc) lv (.ref (G.2.1 3) :: st) := g_getN C 3 (by decide) rfl rfl inT2 5 (by decide) (List.mem_of_getElem? (i := 10) rfl) rfl hd k
theorem gp_X6_118 (C : Cx K G RX6 cc nL) {x : Int32} (hd : decode cc pc = .ok (.putfield 118, 3)) (k : WW K G cells slots Q (upd V 4 x) I J (pc + 3) lv (st)) : WW K G cells slots Q V I J (pc) lv (.int x :: .ref (G.2.1 3) :: st) := g_putN C 3 (by decide) 4 tyX2 rfl rfl inT2 tyX2_ok nmX2 5 (by decide) (List.mem_of_getElem? (i := 10) rfl) rfl (by decide +kernel) (Nat.le_of_ble_eq_true rfl) rfl wo_4 hd k
theorem gf_X6_205 (C : Cx K G RX6 cc nL) (hd : decode cc pc = .ok (.getfield 205, 3)) (k : WW K G cells slots Q V I J (pc + 3) lv (.ref (G.2.1 19) :: st)) : WW K G cells slots Q V I J (pc) lv (.ref (G.2.1 4) :: st) := g_getN C 4 (by decide) rfl rfl inT3 0 (by decide) (List.mem_of_getElem? (i := 11) rfl) rfl hd k
theorem gf_X6_208 (C : Cx K G RX6 cc nL) (hd : decode cc pc = .ok (.getfield 208, 3)) (k : WW K G cells slots Q V I J (pc + 3) lv (.ref (G.2.1 20) :: st)) : WW K G cells slots Q V I J (pc) lv (.ref (G.2.1 4) :: st) := g_getN C 4 (by decide) rfl rfl inT3 1 (by decide) (List.mem_of_getElem? (i := 12) rfl) rfl hd k
theorem gf_X6_211 (C : Cx K G RX6 cc nL) (hd : decode cc pc = .ok (.getfield 211, 3)) (k : WW K G cells slots Q V I J (pc + 3) lv (.ref (G.2.1 21) :: st)) : WW K G cells slots Q V I J (pc) lv (.ref (G.2.1 4) :: st) := g_getN C 4 (by decide) rfl rfl inT3 2 (by decide) (List.mem_of_getElem? (i := 13) rfl) rfl hd k
theorem gf_X6_138 (C : Cx K G RX6 cc nL) (hd : decode cc pc = .ok (.getfield 138, 3)) (k : WW K G cells slots Q V I J (pc + 3) lv (.ref (G.2.1 22) :: st)) : WW K G cells slots Q V I J (pc) lv (.ref (G.2.1 4) :: st) := g_getN C 4 (by decide) rfl rfl inT3 3 (by decide) (List.mem_of_getElem? (i := 14) rfl) rfl hd k
theorem gf_X6_247 (C : Cx K G RX6 cc nL) (hd : decode cc pc = .ok (.getfield 247, 3)) (k : WW K G cells slots Q V I J (pc + 3) lv (.ref (G.2.1 23) :: st)) : WW K G cells slots Q V I J (pc) lv (.ref (G.2.1 4) :: st) := g_getN C 4 (by decide) rfl rfl inT3 4 (by decide) (List.mem_of_getElem? (i := 15) rfl) rfl hd k
theorem gf_X6_127 (C : Cx K G RX6 cc nL) (hd : decode cc pc = .ok (.getfield 127, 3)) (k : WW K G cells slots Q V I J (pc + 3) lv (.int (V 5) :: st)) : WW K G cells slots Q V I J (pc) lv (.ref (G.2.1 4) :: st) := g_getN C 4 (by decide) rfl rfl inT3 5 (by decide) (List.mem_of_getElem? (i := 16) rfl) rfl hd k
theorem gp_X6_127 (C : Cx K G RX6 cc nL) {x : Int32} (hd : decode cc pc = .ok (.putfield 127, 3)) (k : WW K G cells slots Q (upd V 5 x) I J (pc + 3) lv (st)) : WW K G cells slots Q V I J (pc) lv (.int x :: .ref (G.2.1 4) :: st) := g_putN C 4 (by decide) 5 tyX3 rfl rfl inT3 tyX3_ok nmX3 5 (by decide) (List.mem_of_getElem? (i := 16) rfl) rfl (by decide +kernel) (Nat.le_of_ble_eq_true rfl) rfl wo_5 hd k
theorem gf_X6_186 (C : Cx K G RX6 cc nL) (hd : decode cc pc = .ok (.getfield 186, 3)) (k : WW K G cells slots Q V I J (pc + 3) lv (.ref (G.2.1 24) :: st)) : WW K G cells slots Q V I J (pc) lv (.ref (G.2.1 5) :: st) := g_getN C 5 (by decide) rfl rfl inT1 0 (by decide) (List.mem_of_getElem? (i := 17) rfl) rfl hd k
theorem gf_X6_189 (C : Cx K G RX6 cc nL) (hd : decode cc pc = .ok (.getfield 189, 3)) (k : WW K G cells slots Q V I J (pc + 3) lv (.ref (G.2.1 25) :: st)) : WW K G cells slots Q V I J (pc) lv (.ref (G.2.1 5) :: st) := g_getN C 5 (by decide) rfl rfl inT1 1 (by decide) (List.mem_of_getElem? (i := 18) rfl) rfl hd k
theorem gf_X6_192 (C : Cx K G RX6 cc nL) (hd : decode cc pc = .ok (.getfield 192, 3)) (k : WW K G cells slots Q V I J (pc + 3) lv (.ref (G.2.1 26) :: st)) : WW K G cells slots Q V I J (pc) lv (.ref (G.2.1 5) :: st) := g_getN C 5 (by decide) rfl rfl inT1 2 (by decide) (List.mem_of_getElem? (i := 19) rfl) rfl hd k
theorem gf_X6_257 (C : Cx K G RX6 cc nL) (hd : decode cc pc = .ok (.getfield 257, 3)) (k : WW K G cells slots Q V I J (pc + 3) lv (.ref (G.2.1 27) :: st)) : WW K G cells slots Q V I J (pc) lv (.ref (G.2.1 5) :: st) := g_getN C 5 (by decide) rfl rfl inT1 4 (by decide) (List.mem_of_getElem? (i := 20) rfl) rfl hd k
theorem gf_X6_299 (C : Cx K G RX6 cc nL) (hd : decode cc pc = .ok (.getfield 299, 3)) (k : WW K G cells slots Q V I J (pc + 3) lv (.ref (G.2.1 28) :: st)) : WW K G cells slots Q V I J (pc) lv (.ref (G.2.1 5) :: st) := g_getN C 5 (by decide) rfl rfl inT1 5 (by decide) (List.mem_of_getElem? (i := 21) rfl) rfl hd k
theorem gf_X6_183 (C : Cx K G RX6 cc nL) (hd : decode cc pc = .ok (.getfield 183, 3)) (k : WW K G cells slots Q V I J (pc + 3) lv (.int (V 6) :: st)) : WW K G cells slots Q V I J (pc) lv (.ref (G.2.1 5) :: st) := g_getN C 5 (by decide) rfl rfl inT1 6 (by decide) (List.mem_of_getElem? (i := 22) rfl) rfl hd k
theorem gp_X6_183 (C : Cx K G RX6 cc nL) {x : Int32} (hd : decode cc pc = .ok (.putfield 183, 3)) (k : WW K G cells slots Q (upd V 6 x) I J (pc + 3) lv (st)) : WW K G cells slots Q V I J (pc) lv (.int x :: .ref (G.2.1 5) :: st) := g_putN C 5 (by decide) 6 tyX1 rfl rfl inT1 tyX1_ok nmX1 6 (by decide) (List.mem_of_getElem? (i := 22) rfl) rfl (by decide +kernel) (Nat.le_of_ble_eq_true rfl) rfl wo_6 hd k
theorem gf_X6_114 (C : Cx K G RX6 cc nL) (hd : decode cc pc = .ok (.getfield 114, 3)) (k : WW K G cells slots Q V I J (pc + 3) lv (.ref (G.2.1 29) :: st)) : WW K G cells slots Q V I J (pc) lv (.ref (G.2.1 6) :: st) := g_getN C 6 (by decide) rfl rfl inT0 0 (by decide) (List.mem_of_getElem? (i := 23) rfl) rfl hd k
theorem gf_X6_225 (C : Cx K G RX6 cc nL) (hd : decode cc pc = .ok (.getfield 225, 3)) (k : WW K G cells slots Q V I J (pc + 3) lv (.ref (G.2.1 30) :: st)) : WW K G cells slots Q V I J (pc) lv (.ref (G.2.1 6) :: st) := g_getN C 6 (by decide) rfl rfl inT0 1 (by decide) (List.mem_of_getElem? (i := 24) rfl) rfl hd k
theorem gf_X6_222 (C : Cx K G RX6 cc nL) (hd : decode cc pc = .ok (.getfield 222, 3)) (k : WW K G cells slots Q V I J (pc + 3) lv (.ref (G.2.1 31) :: st)) : WW K G cells slots Q V I J (pc) lv (.ref (G.2.1 6) :: st) := g_getN C 6 (by decide) rfl rfl inT0 2 (by decide) (List.mem_of_getElem? (i := 25) rfl) rfl hd k
theorem gf_X6_160 (C : Cx K G RX6 cc nL) (hd : decode cc pc = .ok (.getfield 160, 3)) (k : WW K G cells slots Q V I J (pc + 3) lv (.ref (G.2.1 32) :: st)) : WW K G cells slots Q V I J (pc) lv (.ref (G.2.1 6) :: st) := g_getN C 6 (by decide) rfl rfl inT0 3 (by decide) (List.mem_of_getElem? (i := 26) rfl) rfl hd k
end GF
theorem aa_8 : 8 ≤ 8 ∧ 8 < 81 ∧ wKd 8 = 0 := by decide
theorem aa_9 : 8 ≤ 9 ∧ 9 < 81 ∧ wKd 9 = 0 := by decide
theorem aa_10 : 8 ≤ 10 ∧ 10 < 81 ∧ wKd 10 = 0 := by decide
theorem aa_11 : 8 ≤ 11 ∧ 11 < 81 ∧ wKd 11 = 0 := by decide
theorem aa_12 : 8 ≤ 12 ∧ 12 < 81 ∧ wKd 12 = 0 := by decide
theorem aa_13 : 8 ≤ 13 ∧ 13 < 81 ∧ wKd 13 = 0 := by decide
theorem aa_14 : 8 ≤ 14 ∧ 14 < 81 ∧ wKd 14 = 0 := by decide
theorem aa_15 : 8 ≤ 15 ∧ 15 < 81 ∧ wKd 15 = 0 := by decide
theorem aa_16 : 8 ≤ 16 ∧ 16 < 81 ∧ wKd 16 = 0 := by decide
theorem aa_17 : 8 ≤ 17 ∧ 17 < 81 ∧ wKd 17 = 0 := by decide
theorem aa_18 : 8 ≤ 18 ∧ 18 < 81 ∧ wKd 18 = 0 := by decide
theorem aa_19 : 8 ≤ 19 ∧ 19 < 81 ∧ wKd 19 = 0 := by decide
theorem aa_20 : 8 ≤ 20 ∧ 20 < 81 ∧ wKd 20 = 0 := by decide
theorem aa_21 : 8 ≤ 21 ∧ 21 < 81 ∧ wKd 21 = 0 := by decide
theorem aa_22 : 8 ≤ 22 ∧ 22 < 81 ∧ wKd 22 = 1 := by decide
theorem aa_23 : 8 ≤ 23 ∧ 23 < 81 ∧ wKd 23 = 0 := by decide
theorem aa_24 : 8 ≤ 24 ∧ 24 < 81 ∧ wKd 24 = 0 := by decide
theorem aa_25 : 8 ≤ 25 ∧ 25 < 81 ∧ wKd 25 = 0 := by decide
theorem aa_26 : 8 ≤ 26 ∧ 26 < 81 ∧ wKd 26 = 0 := by decide
theorem aa_27 : 8 ≤ 27 ∧ 27 < 81 ∧ wKd 27 = 0 := by decide
theorem aa_28 : 8 ≤ 28 ∧ 28 < 81 ∧ wKd 28 = 1 := by decide
theorem aa_29 : 8 ≤ 29 ∧ 29 < 81 ∧ wKd 29 = 2 := by decide
theorem aa_30 : 8 ≤ 30 ∧ 30 < 81 ∧ wKd 30 = 2 := by decide
theorem aa_31 : 8 ≤ 31 ∧ 31 < 81 ∧ wKd 31 = 2 := by decide
theorem aa_32 : 8 ≤ 32 ∧ 32 < 81 ∧ wKd 32 = 2 := by decide
theorem aa_33 : 8 ≤ 33 ∧ 33 < 81 ∧ wKd 33 = 3 := by decide
theorem aa_34 : 8 ≤ 34 ∧ 34 < 81 ∧ wKd 34 = 3 := by decide
theorem aa_35 : 8 ≤ 35 ∧ 35 < 81 ∧ wKd 35 = 0 := by decide
theorem aa_36 : 8 ≤ 36 ∧ 36 < 81 ∧ wKd 36 = 0 := by decide
theorem aa_37 : 8 ≤ 37 ∧ 37 < 81 ∧ wKd 37 = 0 := by decide
theorem aa_38 : 8 ≤ 38 ∧ 38 < 81 ∧ wKd 38 = 0 := by decide
theorem aa_39 : 8 ≤ 39 ∧ 39 < 81 ∧ wKd 39 = 0 := by decide
theorem aa_40 : 8 ≤ 40 ∧ 40 < 81 ∧ wKd 40 = 0 := by decide
theorem aa_41 : 8 ≤ 41 ∧ 41 < 81 ∧ wKd 41 = 0 := by decide
theorem aa_42 : 8 ≤ 42 ∧ 42 < 81 ∧ wKd 42 = 0 := by decide
theorem aa_43 : 8 ≤ 43 ∧ 43 < 81 ∧ wKd 43 = 0 := by decide
theorem aa_44 : 8 ≤ 44 ∧ 44 < 81 ∧ wKd 44 = 0 := by decide
theorem aa_45 : 8 ≤ 45 ∧ 45 < 81 ∧ wKd 45 = 0 := by decide
theorem aa_46 : 8 ≤ 46 ∧ 46 < 81 ∧ wKd 46 = 0 := by decide
theorem aa_47 : 8 ≤ 47 ∧ 47 < 81 ∧ wKd 47 = 0 := by decide
theorem aa_48 : 8 ≤ 48 ∧ 48 < 81 ∧ wKd 48 = 0 := by decide
theorem aa_49 : 8 ≤ 49 ∧ 49 < 81 ∧ wKd 49 = 0 := by decide
theorem aa_50 : 8 ≤ 50 ∧ 50 < 81 ∧ wKd 50 = 0 := by decide
theorem aa_51 : 8 ≤ 51 ∧ 51 < 81 ∧ wKd 51 = 0 := by decide
theorem aa_52 : 8 ≤ 52 ∧ 52 < 81 ∧ wKd 52 = 0 := by decide
theorem aa_53 : 8 ≤ 53 ∧ 53 < 81 ∧ wKd 53 = 0 := by decide
theorem aa_54 : 8 ≤ 54 ∧ 54 < 81 ∧ wKd 54 = 0 := by decide
theorem aa_55 : 8 ≤ 55 ∧ 55 < 81 ∧ wKd 55 = 0 := by decide
theorem aa_56 : 8 ≤ 56 ∧ 56 < 81 ∧ wKd 56 = 0 := by decide
theorem aa_57 : 8 ≤ 57 ∧ 57 < 81 ∧ wKd 57 = 0 := by decide
theorem aa_58 : 8 ≤ 58 ∧ 58 < 81 ∧ wKd 58 = 0 := by decide
theorem aa_59 : 8 ≤ 59 ∧ 59 < 81 ∧ wKd 59 = 0 := by decide
theorem aa_60 : 8 ≤ 60 ∧ 60 < 81 ∧ wKd 60 = 2 := by decide
theorem aa_61 : 8 ≤ 61 ∧ 61 < 81 ∧ wKd 61 = 2 := by decide
theorem aa_62 : 8 ≤ 62 ∧ 62 < 81 ∧ wKd 62 = 2 := by decide
theorem aa_63 : 8 ≤ 63 ∧ 63 < 81 ∧ wKd 63 = 2 := by decide
theorem aa_64 : 8 ≤ 64 ∧ 64 < 81 ∧ wKd 64 = 0 := by decide
theorem aa_65 : 8 ≤ 65 ∧ 65 < 81 ∧ wKd 65 = 0 := by decide
theorem aa_66 : 8 ≤ 66 ∧ 66 < 81 ∧ wKd 66 = 0 := by decide
theorem aa_67 : 8 ≤ 67 ∧ 67 < 81 ∧ wKd 67 = 0 := by decide
theorem aa_68 : 8 ≤ 68 ∧ 68 < 81 ∧ wKd 68 = 0 := by decide
theorem aa_69 : 8 ≤ 69 ∧ 69 < 81 ∧ wKd 69 = 0 := by decide
theorem aa_70 : 8 ≤ 70 ∧ 70 < 81 ∧ wKd 70 = 1 := by decide
theorem aa_71 : 8 ≤ 71 ∧ 71 < 81 ∧ wKd 71 = 1 := by decide
theorem aa_72 : 8 ≤ 72 ∧ 72 < 81 ∧ wKd 72 = 0 := by decide
theorem aa_73 : 8 ≤ 73 ∧ 73 < 81 ∧ wKd 73 = 1 := by decide
theorem aa_74 : 8 ≤ 74 ∧ 74 < 81 ∧ wKd 74 = 0 := by decide
theorem aa_75 : 8 ≤ 75 ∧ 75 < 81 ∧ wKd 75 = 0 := by decide
theorem aa_76 : 8 ≤ 76 ∧ 76 < 81 ∧ wKd 76 = 0 := by decide
theorem aa_77 : 8 ≤ 77 ∧ 77 < 81 ∧ wKd 77 = 2 := by decide
theorem aa_78 : 8 ≤ 78 ∧ 78 < 81 ∧ wKd 78 = 2 := by decide
theorem aa_79 : 8 ≤ 79 ∧ 79 < 81 ∧ wKd 79 = 2 := by decide
theorem aa_80 : 8 ≤ 80 ∧ 80 < 81 ∧ wKd 80 = 2 := by decide
theorem ar_33 {i : Nat} (h : i < 12) : 8 ≤ 35 + i ∧ 35 + i < 81 ∧ wKd (35 + i) = 0 := by
  have h9 : ∀ i, i < 12 → 8 ≤ 35 + i ∧ 35 + i < 81 ∧ wKd (35 + i) = 0 := by decide
  exact h9 i h
theorem al_33 {i : Nat} (h : i < 12) : wLn (35 + i) = 12 := by
  have h9 : ∀ i, i < 12 → wLn (35 + i) = 12 := by decide
  exact h9 i h
theorem ar_34 {i : Nat} (h : i < 4) : 8 ≤ 47 + i ∧ 47 + i < 81 ∧ wKd (47 + i) = 0 := by
  have h9 : ∀ i, i < 4 → 8 ≤ 47 + i ∧ 47 + i < 81 ∧ wKd (47 + i) = 0 := by decide
  exact h9 i h
theorem al_34 {i : Nat} (h : i < 4) : wLn (47 + i) = 100 := by
  have h9 : ∀ i, i < 4 → wLn (47 + i) = 100 := by decide
  exact h9 i h
theorem wln_lt (a : Nat) : wLn a < 2 ^ 31 := by
  have h : ∀ n, n < 73 → (wTab.getD n (0, 0)).2 < 2 ^ 31 := by decide
  unfold wLn
  rcases Nat.lt_or_ge (a - 8) 73 with q | q
  · exact h _ q
  · rw [List.getD_eq_getElem?_getD, List.getElem?_eq_none (by show 73 ≤ a - 8; exact q)]
    decide
section GN
variable {K : wK} {G : wG} {cells slots : Nat} {Q : State → Prop} {V : wV} {I : wI} {J : wJ} {pc : Nat} {lv : List (Nat × Value)} {st : List Value} {own : String} {cc : ByteArray} {nL : Nat}
theorem n_iald (C : Cx K G own cc nL) (a : Nat) (ha : 8 ≤ a ∧ a < 81 ∧ wKd a = 0) (j : Nat) (hj : j < wLn a) (hd : decode cc pc = .ok (.iaload, 1)) (k : WW K G cells slots Q V I J (pc + 1) lv (.int (I a j) :: st)) : WW K G cells slots Q V I J (pc) lv (.int (nI j) :: .ref (G.2.1 a) :: st) := g_iald C a ha (vp_in_nI hj (wln_lt a)) hd (by rw [nI_clamp (Nat.lt_trans hj (wln_lt a))]; exact k)
theorem n_zald (C : Cx K G own cc nL) (a : Nat) (ha : 8 ≤ a ∧ a < 81 ∧ wKd a = 1) (j : Nat) (hj : j < wLn a) (hd : decode cc pc = .ok (.baload, 1)) (k : WW K G cells slots Q V I J (pc + 1) lv (.int (I a j) :: st)) : WW K G cells slots Q V I J (pc) lv (.int (nI j) :: .ref (G.2.1 a) :: st) := g_zald C a ha (vp_in_nI hj (wln_lt a)) hd (by rw [nI_clamp (Nat.lt_trans hj (wln_lt a))]; exact k)
theorem n_lald (C : Cx K G own cc nL) (a : Nat) (ha : 8 ≤ a ∧ a < 81 ∧ wKd a = 2) (j : Nat) (hj : j < wLn a) (hd : decode cc pc = .ok (.laload, 1)) (k : WW K G cells slots Q V I J (pc + 1) lv (.long (J a j) :: st)) : WW K G cells slots Q V I J (pc) lv (.int (nI j) :: .ref (G.2.1 a) :: st) := g_lald C a ha (vp_in_nI hj (wln_lt a)) hd (by rw [nI_clamp (Nat.lt_trans hj (wln_lt a))]; exact k)
theorem n_aald33 (C : Cx K G own cc nL) (j : Nat) (hj : j < 12) (hd : decode cc pc = .ok (.aaload, 1)) (k : WW K G cells slots Q V I J (pc + 1) lv (.ref (G.2.1 (35 + j)) :: st)) : WW K G cells slots Q V I J (pc) lv (.int (nI j) :: .ref (G.2.1 33) :: st) := g_aald C 33 aa_33 (vp_in_nI (show j < wLn 33 from hj) (wln_lt 33)) hd (by rw [nI_clamp (show j < 2 ^ 31 by omega)]; exact k)
theorem n_aald34 (C : Cx K G own cc nL) (j : Nat) (hj : j < 4) (hd : decode cc pc = .ok (.aaload, 1)) (k : WW K G cells slots Q V I J (pc + 1) lv (.ref (G.2.1 (47 + j)) :: st)) : WW K G cells slots Q V I J (pc) lv (.int (nI j) :: .ref (G.2.1 34) :: st) := g_aald C 34 aa_34 (vp_in_nI (show j < wLn 34 from hj) (wln_lt 34)) hd (by rw [nI_clamp (show j < 2 ^ 31 by omega)]; exact k)
theorem n_iast (C : Cx K G own cc nL) (a : Nat) (ha : 8 ≤ a ∧ a < 81 ∧ wKd a = 0) (j : Nat) (hj : j < wLn a) {x : Int32} (hd : decode cc pc = .ok (.iastore, 1)) (k : WW K G cells slots Q V (uI I a (upd (I a) j x)) J (pc + 1) lv (st)) : WW K G cells slots Q V I J (pc) lv (.int x :: .int (nI j) :: .ref (G.2.1 a) :: st) := g_iast C a ha (vp_in_nI hj (wln_lt a)) hd (by rw [nI_clamp (Nat.lt_trans hj (wln_lt a))]; exact k)
theorem n_zast (C : Cx K G own cc nL) (a : Nat) (ha : 8 ≤ a ∧ a < 81 ∧ wKd a = 1) (j : Nat) (hj : j < wLn a) {x : Int32} (hx : vp_nar .boolean x = x) (hd : decode cc pc = .ok (.bastore, 1)) (k : WW K G cells slots Q V (uI I a (upd (I a) j x)) J (pc + 1) lv (st)) : WW K G cells slots Q V I J (pc) lv (.int x :: .int (nI j) :: .ref (G.2.1 a) :: st) := g_zast C a ha (vp_in_nI hj (wln_lt a)) hx hd (by rw [nI_clamp (Nat.lt_trans hj (wln_lt a))]; exact k)
theorem n_last (C : Cx K G own cc nL) (a : Nat) (ha : 8 ≤ a ∧ a < 81 ∧ wKd a = 2) (j : Nat) (hj : j < wLn a) {x : Int64} (hd : decode cc pc = .ok (.lastore, 1)) (k : WW K G cells slots Q V I (uJ J a (vp_updL (J a) j x)) (pc + 1) lv (st)) : WW K G cells slots Q V I J (pc) lv (.long x :: .int (nI j) :: .ref (G.2.1 a) :: st) := g_last C a ha (vp_in_nI hj (wln_lt a)) hd (by rw [nI_clamp (Nat.lt_trans hj (wln_lt a))]; exact k)
end GN
theorem vin_nI {x : Int32} {n : Nat} (h : vp_in x n) (hn : n < 2 ^ 31) : ∃ j : Nat, j < n ∧ x = nI j := vp_in_of h hn
theorem nI_i1 (i : Nat) : nI i + Int32.ofInt 1 = nI (i + 1) := nI_1 i
theorem nI_im {i j : Nat} (h : i = j + 1) : nI i + Int32.ofInt (-1) = nI j := by subst h; exact pk_m1 j
theorem nI_s1 {i j : Nat} (h : i = j + 1) : nI i - nI 1 = nI j := by subst h; exact (pk_sub (by omega)).trans (congrArg nI (by omega))
theorem pd_X0_init : yX0_init.cls ≠ "java/lang/invoke/MethodHandle" ∧ yX0_init.cls ≠ "java/lang/invoke/VarHandle" ∧ (parseMethodDescriptor yX0_init.desc).map (fun d => d.parameters.length) = some 0 := by decide +kernel
theorem pd_X0_forgetShares : yX0_forgetShares.cls ≠ "java/lang/invoke/MethodHandle" ∧ yX0_forgetShares.cls ≠ "java/lang/invoke/VarHandle" ∧ (parseMethodDescriptor yX0_forgetShares.desc).map (fun d => d.parameters.length) = some 0 := by decide +kernel
theorem pd_X0_charge : yX0_charge.cls ≠ "java/lang/invoke/MethodHandle" ∧ yX0_charge.cls ≠ "java/lang/invoke/VarHandle" ∧ (parseMethodDescriptor yX0_charge.desc).map (fun d => d.parameters.length) = some 3 := by decide +kernel
theorem pd_X1_init : yX1_init.cls ≠ "java/lang/invoke/MethodHandle" ∧ yX1_init.cls ≠ "java/lang/invoke/VarHandle" ∧ (parseMethodDescriptor yX1_init.desc).map (fun d => d.parameters.length) = some 0 := by decide +kernel
theorem pd_X1_forgetAll : yX1_forgetAll.cls ≠ "java/lang/invoke/MethodHandle" ∧ yX1_forgetAll.cls ≠ "java/lang/invoke/VarHandle" ∧ (parseMethodDescriptor yX1_forgetAll.desc).map (fun d => d.parameters.length) = some 0 := by decide +kernel
theorem pd_X1_begin : yX1_begin.cls ≠ "java/lang/invoke/MethodHandle" ∧ yX1_begin.cls ≠ "java/lang/invoke/VarHandle" ∧ (parseMethodDescriptor yX1_begin.desc).map (fun d => d.parameters.length) = some 2 := by decide +kernel
theorem pd_X1_goOn : yX1_goOn.cls ≠ "java/lang/invoke/MethodHandle" ∧ yX1_goOn.cls ≠ "java/lang/invoke/VarHandle" ∧ (parseMethodDescriptor yX1_goOn.desc).map (fun d => d.parameters.length) = some 3 := by decide +kernel
theorem pd_X1_putDouble : yX1_putDouble.cls ≠ "java/lang/invoke/MethodHandle" ∧ yX1_putDouble.cls ≠ "java/lang/invoke/VarHandle" ∧ (parseMethodDescriptor yX1_putDouble.desc).map (fun d => d.parameters.length) = some 2 := by decide +kernel
theorem pd_X1_pay : yX1_pay.cls ≠ "java/lang/invoke/MethodHandle" ∧ yX1_pay.cls ≠ "java/lang/invoke/VarHandle" ∧ (parseMethodDescriptor yX1_pay.desc).map (fun d => d.parameters.length) = some 3 := by decide +kernel
theorem pd_X1_isOver : yX1_isOver.cls ≠ "java/lang/invoke/MethodHandle" ∧ yX1_isOver.cls ≠ "java/lang/invoke/VarHandle" ∧ (parseMethodDescriptor yX1_isOver.desc).map (fun d => d.parameters.length) = some 2 := by decide +kernel
theorem pd_X1_wholeOf : yX1_wholeOf.cls ≠ "java/lang/invoke/MethodHandle" ∧ yX1_wholeOf.cls ≠ "java/lang/invoke/VarHandle" ∧ (parseMethodDescriptor yX1_wholeOf.desc).map (fun d => d.parameters.length) = some 1 := by decide +kernel
theorem pd_X1_fareOf : yX1_fareOf.cls ≠ "java/lang/invoke/MethodHandle" ∧ yX1_fareOf.cls ≠ "java/lang/invoke/VarHandle" ∧ (parseMethodDescriptor yX1_fareOf.desc).map (fun d => d.parameters.length) = some 2 := by decide +kernel
theorem pd_X1_shareOf : yX1_shareOf.cls ≠ "java/lang/invoke/MethodHandle" ∧ yX1_shareOf.cls ≠ "java/lang/invoke/VarHandle" ∧ (parseMethodDescriptor yX1_shareOf.desc).map (fun d => d.parameters.length) = some 3 := by decide +kernel
theorem pd_X1_cutShare : yX1_cutShare.cls ≠ "java/lang/invoke/MethodHandle" ∧ yX1_cutShare.cls ≠ "java/lang/invoke/VarHandle" ∧ (parseMethodDescriptor yX1_cutShare.desc).map (fun d => d.parameters.length) = some 4 := by decide +kernel
theorem pd_X1_ownerOfTheMost : yX1_ownerOfTheMost.cls ≠ "java/lang/invoke/MethodHandle" ∧ yX1_ownerOfTheMost.cls ≠ "java/lang/invoke/VarHandle" ∧ (parseMethodDescriptor yX1_ownerOfTheMost.desc).map (fun d => d.parameters.length) = some 1 := by decide +kernel
theorem pd_X1_sumFares : yX1_sumFares.cls ≠ "java/lang/invoke/MethodHandle" ∧ yX1_sumFares.cls ≠ "java/lang/invoke/VarHandle" ∧ (parseMethodDescriptor yX1_sumFares.desc).map (fun d => d.parameters.length) = some 2 := by decide +kernel
theorem pd_X1_sumShares : yX1_sumShares.cls ≠ "java/lang/invoke/MethodHandle" ∧ yX1_sumShares.cls ≠ "java/lang/invoke/VarHandle" ∧ (parseMethodDescriptor yX1_sumShares.desc).map (fun d => d.parameters.length) = some 3 := by decide +kernel
theorem pd_X2_init : yX2_init.cls ≠ "java/lang/invoke/MethodHandle" ∧ yX2_init.cls ≠ "java/lang/invoke/VarHandle" ∧ (parseMethodDescriptor yX2_init.desc).map (fun d => d.parameters.length) = some 0 := by decide +kernel
theorem pd_X2_addSpan : yX2_addSpan.cls ≠ "java/lang/invoke/MethodHandle" ∧ yX2_addSpan.cls ≠ "java/lang/invoke/VarHandle" ∧ (parseMethodDescriptor yX2_addSpan.desc).map (fun d => d.parameters.length) = some 3 := by decide +kernel
theorem pd_X2_isExempt : yX2_isExempt.cls ≠ "java/lang/invoke/MethodHandle" ∧ yX2_isExempt.cls ≠ "java/lang/invoke/VarHandle" ∧ (parseMethodDescriptor yX2_isExempt.desc).map (fun d => d.parameters.length) = some 2 := by decide +kernel
theorem pd_X3_init : yX3_init.cls ≠ "java/lang/invoke/MethodHandle" ∧ yX3_init.cls ≠ "java/lang/invoke/VarHandle" ∧ (parseMethodDescriptor yX3_init.desc).map (fun d => d.parameters.length) = some 0 := by decide +kernel
theorem pd_X3_add : yX3_add.cls ≠ "java/lang/invoke/MethodHandle" ∧ yX3_add.cls ≠ "java/lang/invoke/VarHandle" ∧ (parseMethodDescriptor yX3_add.desc).map (fun d => d.parameters.length) = some 3 := by decide +kernel
theorem pd_X3_minutesBetween : yX3_minutesBetween.cls ≠ "java/lang/invoke/MethodHandle" ∧ yX3_minutesBetween.cls ≠ "java/lang/invoke/VarHandle" ∧ (parseMethodDescriptor yX3_minutesBetween.desc).map (fun d => d.parameters.length) = some 2 := by decide +kernel
theorem pd_X4_init : yX4_init.cls ≠ "java/lang/invoke/MethodHandle" ∧ yX4_init.cls ≠ "java/lang/invoke/VarHandle" ∧ (parseMethodDescriptor yX4_init.desc).map (fun d => d.parameters.length) = some 0 := by decide +kernel
theorem pd_X4_addGate : yX4_addGate.cls ≠ "java/lang/invoke/MethodHandle" ∧ yX4_addGate.cls ≠ "java/lang/invoke/VarHandle" ∧ (parseMethodDescriptor yX4_addGate.desc).map (fun d => d.parameters.length) = some 0 := by decide +kernel
theorem pd_X4_addRoad : yX4_addRoad.cls ≠ "java/lang/invoke/MethodHandle" ∧ yX4_addRoad.cls ≠ "java/lang/invoke/VarHandle" ∧ (parseMethodDescriptor yX4_addRoad.desc).map (fun d => d.parameters.length) = some 4 := by decide +kernel
theorem pd_X4_shortenDistances : yX4_shortenDistances.cls ≠ "java/lang/invoke/MethodHandle" ∧ yX4_shortenDistances.cls ≠ "java/lang/invoke/VarHandle" ∧ (parseMethodDescriptor yX4_shortenDistances.desc).map (fun d => d.parameters.length) = some 3 := by decide +kernel
theorem pd_X4_hasWay : yX4_hasWay.cls ≠ "java/lang/invoke/MethodHandle" ∧ yX4_hasWay.cls ≠ "java/lang/invoke/VarHandle" ∧ (parseMethodDescriptor yX4_hasWay.desc).map (fun d => d.parameters.length) = some 2 := by decide +kernel
theorem pd_X4_roadOfWay : yX4_roadOfWay.cls ≠ "java/lang/invoke/MethodHandle" ∧ yX4_roadOfWay.cls ≠ "java/lang/invoke/VarHandle" ∧ (parseMethodDescriptor yX4_roadOfWay.desc).map (fun d => d.parameters.length) = some 3 := by decide +kernel
theorem pd_X4_roadTowards : yX4_roadTowards.cls ≠ "java/lang/invoke/MethodHandle" ∧ yX4_roadTowards.cls ≠ "java/lang/invoke/VarHandle" ∧ (parseMethodDescriptor yX4_roadTowards.desc).map (fun d => d.parameters.length) = some 2 := by decide +kernel
theorem pd_X4_otherEnd : yX4_otherEnd.cls ≠ "java/lang/invoke/MethodHandle" ∧ yX4_otherEnd.cls ≠ "java/lang/invoke/VarHandle" ∧ (parseMethodDescriptor yX4_otherEnd.desc).map (fun d => d.parameters.length) = some 2 := by decide +kernel
theorem pd_X5_init : yX5_init.cls ≠ "java/lang/invoke/MethodHandle" ∧ yX5_init.cls ≠ "java/lang/invoke/VarHandle" ∧ (parseMethodDescriptor yX5_init.desc).map (fun d => d.parameters.length) = some 0 := by decide +kernel
theorem pd_X5_centsFor : yX5_centsFor.cls ≠ "java/lang/invoke/MethodHandle" ∧ yX5_centsFor.cls ≠ "java/lang/invoke/VarHandle" ∧ (parseMethodDescriptor yX5_centsFor.desc).map (fun d => d.parameters.length) = some 3 := by decide +kernel
theorem pd_X5_isBusy : yX5_isBusy.cls ≠ "java/lang/invoke/MethodHandle" ∧ yX5_isBusy.cls ≠ "java/lang/invoke/VarHandle" ∧ (parseMethodDescriptor yX5_isBusy.desc).map (fun d => d.parameters.length) = some 1 := by decide +kernel
theorem pd_X6_init : yX6_init.cls ≠ "java/lang/invoke/MethodHandle" ∧ yX6_init.cls ≠ "java/lang/invoke/VarHandle" ∧ (parseMethodDescriptor yX6_init.desc).map (fun d => d.parameters.length) = some 0 := by decide +kernel
theorem pd_X6_gate : yX6_gate.cls ≠ "java/lang/invoke/MethodHandle" ∧ yX6_gate.cls ≠ "java/lang/invoke/VarHandle" ∧ (parseMethodDescriptor yX6_gate.desc).map (fun d => d.parameters.length) = some 0 := by decide +kernel
theorem pd_X6_road : yX6_road.cls ≠ "java/lang/invoke/MethodHandle" ∧ yX6_road.cls ≠ "java/lang/invoke/VarHandle" ∧ (parseMethodDescriptor yX6_road.desc).map (fun d => d.parameters.length) = some 4 := by decide +kernel
theorem pd_X6_rate : yX6_rate.cls ≠ "java/lang/invoke/MethodHandle" ∧ yX6_rate.cls ≠ "java/lang/invoke/VarHandle" ∧ (parseMethodDescriptor yX6_rate.desc).map (fun d => d.parameters.length) = some 3 := by decide +kernel
theorem pd_X6_most : yX6_most.cls ≠ "java/lang/invoke/MethodHandle" ∧ yX6_most.cls ≠ "java/lang/invoke/VarHandle" ∧ (parseMethodDescriptor yX6_most.desc).map (fun d => d.parameters.length) = some 1 := by decide +kernel
theorem pd_X6_plate : yX6_plate.cls ≠ "java/lang/invoke/MethodHandle" ∧ yX6_plate.cls ≠ "java/lang/invoke/VarHandle" ∧ (parseMethodDescriptor yX6_plate.desc).map (fun d => d.parameters.length) = some 3 := by decide +kernel
theorem pd_X6_top : yX6_top.cls ≠ "java/lang/invoke/MethodHandle" ∧ yX6_top.cls ≠ "java/lang/invoke/VarHandle" ∧ (parseMethodDescriptor yX6_top.desc).map (fun d => d.parameters.length) = some 2 := by decide +kernel
theorem pd_X6_exempt : yX6_exempt.cls ≠ "java/lang/invoke/MethodHandle" ∧ yX6_exempt.cls ≠ "java/lang/invoke/VarHandle" ∧ (parseMethodDescriptor yX6_exempt.desc).map (fun d => d.parameters.length) = some 3 := by decide +kernel
theorem pd_X6_read : yX6_read.cls ≠ "java/lang/invoke/MethodHandle" ∧ yX6_read.cls ≠ "java/lang/invoke/VarHandle" ∧ (parseMethodDescriptor yX6_read.desc).map (fun d => d.parameters.length) = some 3 := by decide +kernel
theorem pd_X6_strike : yX6_strike.cls ≠ "java/lang/invoke/MethodHandle" ∧ yX6_strike.cls ≠ "java/lang/invoke/VarHandle" ∧ (parseMethodDescriptor yX6_strike.desc).map (fun d => d.parameters.length) = some 1 := by decide +kernel
theorem pd_X6_pass : yX6_pass.cls ≠ "java/lang/invoke/MethodHandle" ∧ yX6_pass.cls ≠ "java/lang/invoke/VarHandle" ∧ (parseMethodDescriptor yX6_pass.desc).map (fun d => d.parameters.length) = some 1 := by decide +kernel
theorem pd_X6_bill : yX6_bill.cls ≠ "java/lang/invoke/MethodHandle" ∧ yX6_bill.cls ≠ "java/lang/invoke/VarHandle" ∧ (parseMethodDescriptor yX6_bill.desc).map (fun d => d.parameters.length) = some 0 := by decide +kernel
theorem pd_X6_distance : yX6_distance.cls ≠ "java/lang/invoke/MethodHandle" ∧ yX6_distance.cls ≠ "java/lang/invoke/VarHandle" ∧ (parseMethodDescriptor yX6_distance.desc).map (fun d => d.parameters.length) = some 2 := by decide +kernel
theorem pd_X6_way : yX6_way.cls ≠ "java/lang/invoke/MethodHandle" ∧ yX6_way.cls ≠ "java/lang/invoke/VarHandle" ∧ (parseMethodDescriptor yX6_way.desc).map (fun d => d.parameters.length) = some 3 := by decide +kernel
theorem pd_X6_journeys : yX6_journeys.cls ≠ "java/lang/invoke/MethodHandle" ∧ yX6_journeys.cls ≠ "java/lang/invoke/VarHandle" ∧ (parseMethodDescriptor yX6_journeys.desc).map (fun d => d.parameters.length) = some 1 := by decide +kernel
theorem pd_X6_journey : yX6_journey.cls ≠ "java/lang/invoke/MethodHandle" ∧ yX6_journey.cls ≠ "java/lang/invoke/VarHandle" ∧ (parseMethodDescriptor yX6_journey.desc).map (fun d => d.parameters.length) = some 3 := by decide +kernel
theorem pd_X6_ofReading : yX6_ofReading.cls ≠ "java/lang/invoke/MethodHandle" ∧ yX6_ofReading.cls ≠ "java/lang/invoke/VarHandle" ∧ (parseMethodDescriptor yX6_ofReading.desc).map (fun d => d.parameters.length) = some 2 := by decide +kernel
theorem pd_X6_due : yX6_due.cls ≠ "java/lang/invoke/MethodHandle" ∧ yX6_due.cls ≠ "java/lang/invoke/VarHandle" ∧ (parseMethodDescriptor yX6_due.desc).map (fun d => d.parameters.length) = some 1 := by decide +kernel
theorem pd_X6_billed : yX6_billed.cls ≠ "java/lang/invoke/MethodHandle" ∧ yX6_billed.cls ≠ "java/lang/invoke/VarHandle" ∧ (parseMethodDescriptor yX6_billed.desc).map (fun d => d.parameters.length) = some 1 := by decide +kernel
theorem pd_X6_wallet : yX6_wallet.cls ≠ "java/lang/invoke/MethodHandle" ∧ yX6_wallet.cls ≠ "java/lang/invoke/VarHandle" ∧ (parseMethodDescriptor yX6_wallet.desc).map (fun d => d.parameters.length) = some 1 := by decide +kernel
theorem pd_X6_own : yX6_own.cls ≠ "java/lang/invoke/MethodHandle" ∧ yX6_own.cls ≠ "java/lang/invoke/VarHandle" ∧ (parseMethodDescriptor yX6_own.desc).map (fun d => d.parameters.length) = some 1 := by decide +kernel
theorem pd_X6_share : yX6_share.cls ≠ "java/lang/invoke/MethodHandle" ∧ yX6_share.cls ≠ "java/lang/invoke/VarHandle" ∧ (parseMethodDescriptor yX6_share.desc).map (fun d => d.parameters.length) = some 2 := by decide +kernel
theorem pd_X6_requireGate : yX6_requireGate.cls ≠ "java/lang/invoke/MethodHandle" ∧ yX6_requireGate.cls ≠ "java/lang/invoke/VarHandle" ∧ (parseMethodDescriptor yX6_requireGate.desc).map (fun d => d.parameters.length) = some 1 := by decide +kernel
theorem pd_X6_requireReading : yX6_requireReading.cls ≠ "java/lang/invoke/MethodHandle" ∧ yX6_requireReading.cls ≠ "java/lang/invoke/VarHandle" ∧ (parseMethodDescriptor yX6_requireReading.desc).map (fun d => d.parameters.length) = some 1 := by decide +kernel
theorem pd_X6_requirePlate : yX6_requirePlate.cls ≠ "java/lang/invoke/MethodHandle" ∧ yX6_requirePlate.cls ≠ "java/lang/invoke/VarHandle" ∧ (parseMethodDescriptor yX6_requirePlate.desc).map (fun d => d.parameters.length) = some 1 := by decide +kernel
theorem pd_X6_requireHolder : yX6_requireHolder.cls ≠ "java/lang/invoke/MethodHandle" ∧ yX6_requireHolder.cls ≠ "java/lang/invoke/VarHandle" ∧ (parseMethodDescriptor yX6_requireHolder.desc).map (fun d => d.parameters.length) = some 1 := by decide +kernel
theorem pd_X6_requireRange : yX6_requireRange.cls ≠ "java/lang/invoke/MethodHandle" ∧ yX6_requireRange.cls ≠ "java/lang/invoke/VarHandle" ∧ (parseMethodDescriptor yX6_requireRange.desc).map (fun d => d.parameters.length) = some 3 := by decide +kernel
theorem pd_X6_findJourneys : yX6_findJourneys.cls ≠ "java/lang/invoke/MethodHandle" ∧ yX6_findJourneys.cls ≠ "java/lang/invoke/VarHandle" ∧ (parseMethodDescriptor yX6_findJourneys.desc).map (fun d => d.parameters.length) = some 1 := by decide +kernel
theorem pd_X6_placeReading : yX6_placeReading.cls ≠ "java/lang/invoke/MethodHandle" ∧ yX6_placeReading.cls ≠ "java/lang/invoke/VarHandle" ∧ (parseMethodDescriptor yX6_placeReading.desc).map (fun d => d.parameters.length) = some 2 := by decide +kernel
theorem pd_X6_isDoubleOf : yX6_isDoubleOf.cls ≠ "java/lang/invoke/MethodHandle" ∧ yX6_isDoubleOf.cls ≠ "java/lang/invoke/VarHandle" ∧ (parseMethodDescriptor yX6_isDoubleOf.desc).map (fun d => d.parameters.length) = some 2 := by decide +kernel
theorem pd_X6_goesOnFrom : yX6_goesOnFrom.cls ≠ "java/lang/invoke/MethodHandle" ∧ yX6_goesOnFrom.cls ≠ "java/lang/invoke/VarHandle" ∧ (parseMethodDescriptor yX6_goesOnFrom.desc).map (fun d => d.parameters.length) = some 2 := by decide +kernel
theorem pd_X6_payWay : yX6_payWay.cls ≠ "java/lang/invoke/MethodHandle" ∧ yX6_payWay.cls ≠ "java/lang/invoke/VarHandle" ∧ (parseMethodDescriptor yX6_payWay.desc).map (fun d => d.parameters.length) = some 3 := by decide +kernel
theorem pd_X6_isDoubleNow : yX6_isDoubleNow.cls ≠ "java/lang/invoke/MethodHandle" ∧ yX6_isDoubleNow.cls ≠ "java/lang/invoke/VarHandle" ∧ (parseMethodDescriptor yX6_isDoubleNow.desc).map (fun d => d.parameters.length) = some 1 := by decide +kernel
theorem pd_X6_journeyNow : yX6_journeyNow.cls ≠ "java/lang/invoke/MethodHandle" ∧ yX6_journeyNow.cls ≠ "java/lang/invoke/VarHandle" ∧ (parseMethodDescriptor yX6_journeyNow.desc).map (fun d => d.parameters.length) = some 1 := by decide +kernel
theorem pd_X6_dueToOwner : yX6_dueToOwner.cls ≠ "java/lang/invoke/MethodHandle" ∧ yX6_dueToOwner.cls ≠ "java/lang/invoke/VarHandle" ∧ (parseMethodDescriptor yX6_dueToOwner.desc).map (fun d => d.parameters.length) = some 1 := by decide +kernel
theorem pd_X7_init : yX7_init.cls ≠ "java/lang/invoke/MethodHandle" ∧ yX7_init.cls ≠ "java/lang/invoke/VarHandle" ∧ (parseMethodDescriptor yX7_init.desc).map (fun d => d.parameters.length) = some 0 := by decide +kernel
theorem pd_X7_thrown : yX7_thrown.cls ≠ "java/lang/invoke/MethodHandle" ∧ yX7_thrown.cls ≠ "java/lang/invoke/VarHandle" ∧ (parseMethodDescriptor yX7_thrown.desc).map (fun d => d.parameters.length) = some 0 := by decide +kernel
theorem pd_X7_in : yX7_in.cls ≠ "java/lang/invoke/MethodHandle" ∧ yX7_in.cls ≠ "java/lang/invoke/VarHandle" ∧ (parseMethodDescriptor yX7_in.desc).map (fun d => d.parameters.length) = some 3 := by decide +kernel
theorem pd_X7_isGate : yX7_isGate.cls ≠ "java/lang/invoke/MethodHandle" ∧ yX7_isGate.cls ≠ "java/lang/invoke/VarHandle" ∧ (parseMethodDescriptor yX7_isGate.desc).map (fun d => d.parameters.length) = some 1 := by decide +kernel
theorem pd_X7_isPlate : yX7_isPlate.cls ≠ "java/lang/invoke/MethodHandle" ∧ yX7_isPlate.cls ≠ "java/lang/invoke/VarHandle" ∧ (parseMethodDescriptor yX7_isPlate.desc).map (fun d => d.parameters.length) = some 1 := by decide +kernel
theorem pd_X7_isHolder : yX7_isHolder.cls ≠ "java/lang/invoke/MethodHandle" ∧ yX7_isHolder.cls ≠ "java/lang/invoke/VarHandle" ∧ (parseMethodDescriptor yX7_isHolder.desc).map (fun d => d.parameters.length) = some 1 := by decide +kernel
theorem pd_X7_isReading : yX7_isReading.cls ≠ "java/lang/invoke/MethodHandle" ∧ yX7_isReading.cls ≠ "java/lang/invoke/VarHandle" ∧ (parseMethodDescriptor yX7_isReading.desc).map (fun d => d.parameters.length) = some 1 := by decide +kernel
theorem pd_X7_measures : yX7_measures.cls ≠ "java/lang/invoke/MethodHandle" ∧ yX7_measures.cls ≠ "java/lang/invoke/VarHandle" ∧ (parseMethodDescriptor yX7_measures.desc).map (fun d => d.parameters.length) = some 0 := by decide +kernel
theorem pd_X7_away : yX7_away.cls ≠ "java/lang/invoke/MethodHandle" ∧ yX7_away.cls ≠ "java/lang/invoke/VarHandle" ∧ (parseMethodDescriptor yX7_away.desc).map (fun d => d.parameters.length) = some 2 := by decide +kernel
theorem pd_X7_next : yX7_next.cls ≠ "java/lang/invoke/MethodHandle" ∧ yX7_next.cls ≠ "java/lang/invoke/VarHandle" ∧ (parseMethodDescriptor yX7_next.desc).map (fun d => d.parameters.length) = some 2 := by decide +kernel
theorem pd_X7_otherEnd : yX7_otherEnd.cls ≠ "java/lang/invoke/MethodHandle" ∧ yX7_otherEnd.cls ≠ "java/lang/invoke/VarHandle" ∧ (parseMethodDescriptor yX7_otherEnd.desc).map (fun d => d.parameters.length) = some 2 := by decide +kernel
theorem pd_X7_gate : yX7_gate.cls ≠ "java/lang/invoke/MethodHandle" ∧ yX7_gate.cls ≠ "java/lang/invoke/VarHandle" ∧ (parseMethodDescriptor yX7_gate.desc).map (fun d => d.parameters.length) = some 0 := by decide +kernel
theorem pd_X7_road : yX7_road.cls ≠ "java/lang/invoke/MethodHandle" ∧ yX7_road.cls ≠ "java/lang/invoke/VarHandle" ∧ (parseMethodDescriptor yX7_road.desc).map (fun d => d.parameters.length) = some 4 := by decide +kernel
theorem pd_X7_rate : yX7_rate.cls ≠ "java/lang/invoke/MethodHandle" ∧ yX7_rate.cls ≠ "java/lang/invoke/VarHandle" ∧ (parseMethodDescriptor yX7_rate.desc).map (fun d => d.parameters.length) = some 3 := by decide +kernel
theorem pd_X7_most : yX7_most.cls ≠ "java/lang/invoke/MethodHandle" ∧ yX7_most.cls ≠ "java/lang/invoke/VarHandle" ∧ (parseMethodDescriptor yX7_most.desc).map (fun d => d.parameters.length) = some 1 := by decide +kernel
theorem pd_X7_plate : yX7_plate.cls ≠ "java/lang/invoke/MethodHandle" ∧ yX7_plate.cls ≠ "java/lang/invoke/VarHandle" ∧ (parseMethodDescriptor yX7_plate.desc).map (fun d => d.parameters.length) = some 3 := by decide +kernel
theorem pd_X7_top : yX7_top.cls ≠ "java/lang/invoke/MethodHandle" ∧ yX7_top.cls ≠ "java/lang/invoke/VarHandle" ∧ (parseMethodDescriptor yX7_top.desc).map (fun d => d.parameters.length) = some 2 := by decide +kernel
theorem pd_X7_exempt : yX7_exempt.cls ≠ "java/lang/invoke/MethodHandle" ∧ yX7_exempt.cls ≠ "java/lang/invoke/VarHandle" ∧ (parseMethodDescriptor yX7_exempt.desc).map (fun d => d.parameters.length) = some 3 := by decide +kernel
theorem pd_X7_isExempt : yX7_isExempt.cls ≠ "java/lang/invoke/MethodHandle" ∧ yX7_isExempt.cls ≠ "java/lang/invoke/VarHandle" ∧ (parseMethodDescriptor yX7_isExempt.desc).map (fun d => d.parameters.length) = some 2 := by decide +kernel
theorem pd_X7_read : yX7_read.cls ≠ "java/lang/invoke/MethodHandle" ∧ yX7_read.cls ≠ "java/lang/invoke/VarHandle" ∧ (parseMethodDescriptor yX7_read.desc).map (fun d => d.parameters.length) = some 3 := by decide +kernel
theorem pd_X7_strike : yX7_strike.cls ≠ "java/lang/invoke/MethodHandle" ∧ yX7_strike.cls ≠ "java/lang/invoke/VarHandle" ∧ (parseMethodDescriptor yX7_strike.desc).map (fun d => d.parameters.length) = some 1 := by decide +kernel
theorem pd_X7_pass : yX7_pass.cls ≠ "java/lang/invoke/MethodHandle" ∧ yX7_pass.cls ≠ "java/lang/invoke/VarHandle" ∧ (parseMethodDescriptor yX7_pass.desc).map (fun d => d.parameters.length) = some 1 := by decide +kernel
theorem pd_X7_nextReading : yX7_nextReading.cls ≠ "java/lang/invoke/MethodHandle" ∧ yX7_nextReading.cls ≠ "java/lang/invoke/VarHandle" ∧ (parseMethodDescriptor yX7_nextReading.desc).map (fun d => d.parameters.length) = some 1 := by decide +kernel
theorem pd_X7_pays : yX7_pays.cls ≠ "java/lang/invoke/MethodHandle" ∧ yX7_pays.cls ≠ "java/lang/invoke/VarHandle" ∧ (parseMethodDescriptor yX7_pays.desc).map (fun d => d.parameters.length) = some 4 := by decide +kernel
theorem pd_X7_begins : yX7_begins.cls ≠ "java/lang/invoke/MethodHandle" ∧ yX7_begins.cls ≠ "java/lang/invoke/VarHandle" ∧ (parseMethodDescriptor yX7_begins.desc).map (fun d => d.parameters.length) = some 1 := by decide +kernel
theorem pd_X7_shares : yX7_shares.cls ≠ "java/lang/invoke/MethodHandle" ∧ yX7_shares.cls ≠ "java/lang/invoke/VarHandle" ∧ (parseMethodDescriptor yX7_shares.desc).map (fun d => d.parameters.length) = some 1 := by decide +kernel
theorem pd_X7_goes : yX7_goes.cls ≠ "java/lang/invoke/MethodHandle" ∧ yX7_goes.cls ≠ "java/lang/invoke/VarHandle" ∧ (parseMethodDescriptor yX7_goes.desc).map (fun d => d.parameters.length) = some 1 := by decide +kernel
theorem pd_X7_isOver : yX7_isOver.cls ≠ "java/lang/invoke/MethodHandle" ∧ yX7_isOver.cls ≠ "java/lang/invoke/VarHandle" ∧ (parseMethodDescriptor yX7_isOver.desc).map (fun d => d.parameters.length) = some 1 := by decide +kernel
theorem pd_X7_dueOf : yX7_dueOf.cls ≠ "java/lang/invoke/MethodHandle" ∧ yX7_dueOf.cls ≠ "java/lang/invoke/VarHandle" ∧ (parseMethodDescriptor yX7_dueOf.desc).map (fun d => d.parameters.length) = some 1 := by decide +kernel
theorem pd_X7_dueTo : yX7_dueTo.cls ≠ "java/lang/invoke/MethodHandle" ∧ yX7_dueTo.cls ≠ "java/lang/invoke/VarHandle" ∧ (parseMethodDescriptor yX7_dueTo.desc).map (fun d => d.parameters.length) = some 1 := by decide +kernel
theorem pd_X7_bill : yX7_bill.cls ≠ "java/lang/invoke/MethodHandle" ∧ yX7_bill.cls ≠ "java/lang/invoke/VarHandle" ∧ (parseMethodDescriptor yX7_bill.desc).map (fun d => d.parameters.length) = some 0 := by decide +kernel
theorem pd_X7_distance : yX7_distance.cls ≠ "java/lang/invoke/MethodHandle" ∧ yX7_distance.cls ≠ "java/lang/invoke/VarHandle" ∧ (parseMethodDescriptor yX7_distance.desc).map (fun d => d.parameters.length) = some 2 := by decide +kernel
theorem pd_X7_way : yX7_way.cls ≠ "java/lang/invoke/MethodHandle" ∧ yX7_way.cls ≠ "java/lang/invoke/VarHandle" ∧ (parseMethodDescriptor yX7_way.desc).map (fun d => d.parameters.length) = some 3 := by decide +kernel
theorem pd_X7_journeys : yX7_journeys.cls ≠ "java/lang/invoke/MethodHandle" ∧ yX7_journeys.cls ≠ "java/lang/invoke/VarHandle" ∧ (parseMethodDescriptor yX7_journeys.desc).map (fun d => d.parameters.length) = some 1 := by decide +kernel
theorem pd_X7_journey : yX7_journey.cls ≠ "java/lang/invoke/MethodHandle" ∧ yX7_journey.cls ≠ "java/lang/invoke/VarHandle" ∧ (parseMethodDescriptor yX7_journey.desc).map (fun d => d.parameters.length) = some 3 := by decide +kernel
theorem pd_X7_ofReading : yX7_ofReading.cls ≠ "java/lang/invoke/MethodHandle" ∧ yX7_ofReading.cls ≠ "java/lang/invoke/VarHandle" ∧ (parseMethodDescriptor yX7_ofReading.desc).map (fun d => d.parameters.length) = some 2 := by decide +kernel
theorem pd_X7_due : yX7_due.cls ≠ "java/lang/invoke/MethodHandle" ∧ yX7_due.cls ≠ "java/lang/invoke/VarHandle" ∧ (parseMethodDescriptor yX7_due.desc).map (fun d => d.parameters.length) = some 1 := by decide +kernel
theorem pd_X7_billed : yX7_billed.cls ≠ "java/lang/invoke/MethodHandle" ∧ yX7_billed.cls ≠ "java/lang/invoke/VarHandle" ∧ (parseMethodDescriptor yX7_billed.desc).map (fun d => d.parameters.length) = some 1 := by decide +kernel
theorem pd_X7_wallet : yX7_wallet.cls ≠ "java/lang/invoke/MethodHandle" ∧ yX7_wallet.cls ≠ "java/lang/invoke/VarHandle" ∧ (parseMethodDescriptor yX7_wallet.desc).map (fun d => d.parameters.length) = some 1 := by decide +kernel
theorem pd_X7_own : yX7_own.cls ≠ "java/lang/invoke/MethodHandle" ∧ yX7_own.cls ≠ "java/lang/invoke/VarHandle" ∧ (parseMethodDescriptor yX7_own.desc).map (fun d => d.parameters.length) = some 1 := by decide +kernel
theorem pd_X7_share : yX7_share.cls ≠ "java/lang/invoke/MethodHandle" ∧ yX7_share.cls ≠ "java/lang/invoke/VarHandle" ∧ (parseMethodDescriptor yX7_share.desc).map (fun d => d.parameters.length) = some 2 := by decide +kernel
theorem pd_L_gate : yL_gate.cls ≠ "java/lang/invoke/MethodHandle" ∧ yL_gate.cls ≠ "java/lang/invoke/VarHandle" ∧ (parseMethodDescriptor yL_gate.desc).map (fun d => d.parameters.length) = some 2 := by decide +kernel
theorem pd_L_road : yL_road.cls ≠ "java/lang/invoke/MethodHandle" ∧ yL_road.cls ≠ "java/lang/invoke/VarHandle" ∧ (parseMethodDescriptor yL_road.desc).map (fun d => d.parameters.length) = some 6 := by decide +kernel
theorem pd_L_rate : yL_rate.cls ≠ "java/lang/invoke/MethodHandle" ∧ yL_rate.cls ≠ "java/lang/invoke/VarHandle" ∧ (parseMethodDescriptor yL_rate.desc).map (fun d => d.parameters.length) = some 4 := by decide +kernel
theorem pd_L_most : yL_most.cls ≠ "java/lang/invoke/MethodHandle" ∧ yL_most.cls ≠ "java/lang/invoke/VarHandle" ∧ (parseMethodDescriptor yL_most.desc).map (fun d => d.parameters.length) = some 3 := by decide +kernel
theorem pd_L_plate : yL_plate.cls ≠ "java/lang/invoke/MethodHandle" ∧ yL_plate.cls ≠ "java/lang/invoke/VarHandle" ∧ (parseMethodDescriptor yL_plate.desc).map (fun d => d.parameters.length) = some 4 := by decide +kernel
theorem pd_L_top : yL_top.cls ≠ "java/lang/invoke/MethodHandle" ∧ yL_top.cls ≠ "java/lang/invoke/VarHandle" ∧ (parseMethodDescriptor yL_top.desc).map (fun d => d.parameters.length) = some 4 := by decide +kernel
theorem pd_L_exempt : yL_exempt.cls ≠ "java/lang/invoke/MethodHandle" ∧ yL_exempt.cls ≠ "java/lang/invoke/VarHandle" ∧ (parseMethodDescriptor yL_exempt.desc).map (fun d => d.parameters.length) = some 5 := by decide +kernel
theorem pd_L_read : yL_read.cls ≠ "java/lang/invoke/MethodHandle" ∧ yL_read.cls ≠ "java/lang/invoke/VarHandle" ∧ (parseMethodDescriptor yL_read.desc).map (fun d => d.parameters.length) = some 5 := by decide +kernel
theorem pd_L_strike : yL_strike.cls ≠ "java/lang/invoke/MethodHandle" ∧ yL_strike.cls ≠ "java/lang/invoke/VarHandle" ∧ (parseMethodDescriptor yL_strike.desc).map (fun d => d.parameters.length) = some 2 := by decide +kernel
theorem pd_L_pass : yL_pass.cls ≠ "java/lang/invoke/MethodHandle" ∧ yL_pass.cls ≠ "java/lang/invoke/VarHandle" ∧ (parseMethodDescriptor yL_pass.desc).map (fun d => d.parameters.length) = some 3 := by decide +kernel
theorem pd_L_distance : yL_distance.cls ≠ "java/lang/invoke/MethodHandle" ∧ yL_distance.cls ≠ "java/lang/invoke/VarHandle" ∧ (parseMethodDescriptor yL_distance.desc).map (fun d => d.parameters.length) = some 4 := by decide +kernel
theorem pd_L_way : yL_way.cls ≠ "java/lang/invoke/MethodHandle" ∧ yL_way.cls ≠ "java/lang/invoke/VarHandle" ∧ (parseMethodDescriptor yL_way.desc).map (fun d => d.parameters.length) = some 5 := by decide +kernel
theorem pd_L_journeys : yL_journeys.cls ≠ "java/lang/invoke/MethodHandle" ∧ yL_journeys.cls ≠ "java/lang/invoke/VarHandle" ∧ (parseMethodDescriptor yL_journeys.desc).map (fun d => d.parameters.length) = some 3 := by decide +kernel
theorem pd_L_journey : yL_journey.cls ≠ "java/lang/invoke/MethodHandle" ∧ yL_journey.cls ≠ "java/lang/invoke/VarHandle" ∧ (parseMethodDescriptor yL_journey.desc).map (fun d => d.parameters.length) = some 5 := by decide +kernel
theorem pd_L_ofReading : yL_ofReading.cls ≠ "java/lang/invoke/MethodHandle" ∧ yL_ofReading.cls ≠ "java/lang/invoke/VarHandle" ∧ (parseMethodDescriptor yL_ofReading.desc).map (fun d => d.parameters.length) = some 4 := by decide +kernel
theorem pd_L_due : yL_due.cls ≠ "java/lang/invoke/MethodHandle" ∧ yL_due.cls ≠ "java/lang/invoke/VarHandle" ∧ (parseMethodDescriptor yL_due.desc).map (fun d => d.parameters.length) = some 3 := by decide +kernel
theorem pd_L_billed : yL_billed.cls ≠ "java/lang/invoke/MethodHandle" ∧ yL_billed.cls ≠ "java/lang/invoke/VarHandle" ∧ (parseMethodDescriptor yL_billed.desc).map (fun d => d.parameters.length) = some 3 := by decide +kernel
theorem pd_L_wallet : yL_wallet.cls ≠ "java/lang/invoke/MethodHandle" ∧ yL_wallet.cls ≠ "java/lang/invoke/VarHandle" ∧ (parseMethodDescriptor yL_wallet.desc).map (fun d => d.parameters.length) = some 3 := by decide +kernel
theorem pd_L_own : yL_own.cls ≠ "java/lang/invoke/MethodHandle" ∧ yL_own.cls ≠ "java/lang/invoke/VarHandle" ∧ (parseMethodDescriptor yL_own.desc).map (fun d => d.parameters.length) = some 3 := by decide +kernel
theorem pd_L_share : yL_share.cls ≠ "java/lang/invoke/MethodHandle" ∧ yL_share.cls ≠ "java/lang/invoke/VarHandle" ∧ (parseMethodDescriptor yL_share.desc).map (fun d => d.parameters.length) = some 4 := by decide +kernel
theorem pd_L_law : yL_law.cls ≠ "java/lang/invoke/MethodHandle" ∧ yL_law.cls ≠ "java/lang/invoke/VarHandle" ∧ (parseMethodDescriptor yL_law.desc).map (fun d => d.parameters.length) = some 1 := by decide +kernel
set_option maxRecDepth 20000 in
theorem tw_min_s : Cond.static Lib.Math.min.name ∈ TT := tt_of 344 rfl rfl
set_option maxRecDepth 20000 in
theorem tw_min_i : Cond.initialized "java/lang/Math" ∈ TT := tt_of 45 rfl rfl
set_option maxRecDepth 20000 in
theorem tw_min_c : Cond.code Lib.Math.min.name Lib.Math.min.code 2 (some .int) ∈ TT := tt_of 345 rfl rfl
theorem vin_lt {i : Int32} {n : Nat} (h : vp_in i n) : i.toNatClampNeg < n := Nat.not_le.mp fun q => h (Or.inr q)
/-- a sure end: this answer, this state -/
def pU (r : Option Value) (V : wV) (I : wI) (J : wJ) : wPo := fun r' V' I' J' => r' = r ∧ V' = V ∧ I' = I ∧ J' = J
section GD
variable {K : wK} {G : wG} {cells slots : Nat} {Q : State → Prop} {V V1 : wV} {I I1 : wI} {J J1 : wJ} {pc : Nat} {lv : List (Nat × Value)} {st st2 stk : List Value} {own : String} {cc : ByteArray} {nL : Nat}
variable {y : MethodName} {bytes : ByteArray} {maxL index : Nat} {ret : Option FieldType} {rm : Room} {As : List Value} {ci N o : Nat} {Cn : String} {T : u_T} {fs : List Value} {r : Option Value} {post : wPo}
theorem g_eqI {x x' : Int32} (h : x = x') (k : WW K G cells slots Q V I J pc lv (.int x' :: st)) : WW K G cells slots Q V I J pc lv (.int x :: st) := by rw [h]; exact k
theorem g_eqL {x x' : Int64} (h : x = x') (k : WW K G cells slots Q V I J pc lv (.long x' :: st)) : WW K G cells slots Q V I J pc lv (.long x :: st) := by rw [h]; exact k
theorem g_st (h1 : V = V1) (h2 : I = I1) (h3 : J = J1) (k : WW K G cells slots Q V1 I1 J1 pc lv st) : WW K G cells slots Q V I J pc lv st := by rw [h1, h2, h3]; exact k
theorem g_cV (C : Cx K G own cc nL) (As : List Value) (o : Nat) (hM : Ctr (kl K) y bytes maxL ret rm G (.ref (G.2.1 o) :: As) V I J (pU r V1 I1 J1) noX) (hstk : stk = As.reverse ++ .ref (G.2.1 o) :: st) (hst2 : r.toList ++ st = st2) (ho : o < 81) (he : wEnt G V I J o = .inr (ci, fs)) (hc : vwCl[ci]? = some (Cn, T, N)) (hC : y.cls = Cn)
    (w1 : Cond.methodLink own index y ∈ TT) (w2 : Cond.instanceMethod y ∈ TT) (w3 : Cond.selects y.cls y y ∈ TT) (w4 : Cond.initialized y.cls ∈ TT) (w5 : Cond.code y bytes maxL ret ∈ TT) (hdd : y.cls ≠ "java/lang/invoke/MethodHandle" ∧ y.cls ≠ "java/lang/invoke/VarHandle" ∧ (parseMethodDescriptor y.desc).map (fun d => d.parameters.length) = some As.length)
    (hz : rm.cells = 0 ∧ rm.slots = 0) (hR : rm.frames + 1 ≤ (kR K).frames ∧ 8 + (maxL + 11) + rm.locals ≤ (kR K).locals ∧ cells ≤ (kR K).cells ∧ slots ≤ (kR K).slots) (hcat : (st.map fun v => v.category).sum ≤ 8) (hd : decode cc pc = .ok (.invokevirtual index, 3))
    (kk : WW K G cells slots Q V1 I1 J1 (pc + 3) lv st2) : WW K G cells slots Q V I J pc lv stk := by
  refine g_callV C As o hM hstk ho he hc hC w1 w2 w3 w4 w5 hdd ⟨hR.1, hR.2.1⟩ hcat (by rw [hz.1, hz.2]; exact hR.2.2) hd (fun _ _ _ _ h => h.elim) (fun r' V' I' J' hp => ?_)
  obtain ⟨rfl, rfl, rfl, rfl⟩ := hp
  rw [hz.1, hz.2, hst2]
  exact kk
theorem g_cS (C : Cx K G own cc nL) (As : List Value) (hM : Ctr (kl K) y bytes maxL ret rm G As V I J (pU r V1 I1 J1) noX) (hstk : stk = As.reverse ++ st) (hst2 : r.toList ++ st = st2) (hC : y.cls = own)
    (w1 : Cond.methodLink own index y ∈ TT) (w2 : Cond.static y ∈ TT) (w4 : Cond.initialized own ∈ TT) (w5 : Cond.code y bytes maxL ret ∈ TT) (hdd : y.cls ≠ "java/lang/invoke/MethodHandle" ∧ y.cls ≠ "java/lang/invoke/VarHandle" ∧ (parseMethodDescriptor y.desc).map (fun d => d.parameters.length) = some As.length)
    (hz : rm.cells = 0 ∧ rm.slots = 0) (hR : rm.frames + 1 ≤ (kR K).frames ∧ 8 + (maxL + 11) + rm.locals ≤ (kR K).locals ∧ cells ≤ (kR K).cells ∧ slots ≤ (kR K).slots) (hcat : (st.map fun v => v.category).sum ≤ 8) (hd : decode cc pc = .ok (.invokestatic index, 3))
    (kk : WW K G cells slots Q V1 I1 J1 (pc + 3) lv st2) : WW K G cells slots Q V I J pc lv stk := by
  refine g_callS C As hM hstk hC w1 w2 w4 w5 hdd ⟨hR.1, hR.2.1⟩ hcat (by rw [hz.1, hz.2]; exact hR.2.2) hd (fun _ _ _ _ h => h.elim) (fun r' V' I' J' hp => ?_)
  obtain ⟨rfl, rfl, rfl, rfl⟩ := hp
  rw [hz.1, hz.2, hst2]
  exact kk
/-- .. a callee that says more loosely what it leaves -/
theorem g_cVr (C : Cx K G own cc nL) (As : List Value) (o : Nat) (hM : Ctr (kl K) y bytes maxL ret rm G (.ref (G.2.1 o) :: As) V I J post noX) (hstk : stk = As.reverse ++ .ref (G.2.1 o) :: st) (ho : o < 81) (he : wEnt G V I J o = .inr (ci, fs)) (hc : vwCl[ci]? = some (Cn, T, N)) (hC : y.cls = Cn)
    (w1 : Cond.methodLink own index y ∈ TT) (w2 : Cond.instanceMethod y ∈ TT) (w3 : Cond.selects y.cls y y ∈ TT) (w4 : Cond.initialized y.cls ∈ TT) (w5 : Cond.code y bytes maxL ret ∈ TT) (hdd : y.cls ≠ "java/lang/invoke/MethodHandle" ∧ y.cls ≠ "java/lang/invoke/VarHandle" ∧ (parseMethodDescriptor y.desc).map (fun d => d.parameters.length) = some As.length)
    (hz : rm.cells = 0 ∧ rm.slots = 0) (hR : rm.frames + 1 ≤ (kR K).frames ∧ 8 + (maxL + 11) + rm.locals ≤ (kR K).locals ∧ cells ≤ (kR K).cells ∧ slots ≤ (kR K).slots) (hcat : (st.map fun v => v.category).sum ≤ 8) (hd : decode cc pc = .ok (.invokevirtual index, 3))
    (kk : ∀ r V' I' J', post r V' I' J' → WW K G cells slots Q V' I' J' (pc + 3) lv (r.toList ++ st)) : WW K G cells slots Q V I J pc lv stk := by
  refine g_callV C As o hM hstk ho he hc hC w1 w2 w3 w4 w5 hdd ⟨hR.1, hR.2.1⟩ hcat (by rw [hz.1, hz.2]; exact hR.2.2) hd (fun _ _ _ _ h => h.elim) (fun r' V' I' J' hp => ?_)
  rw [hz.1, hz.2]
  exact kk r' V' I' J' hp
end GD
