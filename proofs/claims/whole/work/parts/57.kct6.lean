/-! the constructor of Tollweave -/
def kW6 (cI cZ cJ cQ : ClassId) (h0 qt qp qr qj qa : Nat) (ro rt rp rr rj ra : Nat → Nat) : va_W := ((h0, .inr (6, [.ref (ro 0), .ref qt, .ref qp, .ref qr, .ref qj, .ref qa, .int (nI 0)])) :: (((((((([] : va_W) ++ kRW cI cQ ro (kDX 12 0)) ++ kW5 cI cZ cJ qt rt) ++ kW2 cI cZ cJ qp rp) ++ kW3 cI cZ cJ qr rr) ++ kW1 cI cZ cJ qj rj cQ) ++ kW0 cI cZ cJ qa ra)))
def kQ6 (D : va_G) (A : Nat → Prop) (cI cZ cJ : ClassId) (h0 : Nat) : Array Value → State → Outcome → State → Prop := va_Qv (fun _ : Unit => True) (fun _ t => ∃ (cQ : ClassId) (qt qp qr qj qa : Nat) (ro rt rp rr rj ra : Nat → Nat), va_P D vwCl (kW6 cI cZ cJ cQ h0 qt qp qr qj qa ro rt rp rr rj ra) t.heap ∧ va_K D vwCl [(cQ, .array .int)] t ∧ va_D A (kW6 cI cZ cJ cQ h0 qt qp qr qj qa ro rt rp rr rj ra)) A
set_option maxHeartbeats 4000000 in
set_option maxRecDepth 100000 in
theorem k_X6 (l : Launch) (D : va_G) (cI cZ cJ : ClassId) (h0 sz : Nat) : Met l yX6_init (Cond.code yX6_init cX6_init 1 none :: TT) { frames := 2, cells := 49, slots := 1805, locals := 60 } (kPc D cI cZ cJ sz h0 6 [.null, .null, .null, .null, .null, .null, .int 0]) (kQ6 D (va_A [(h0, .inr (6, [.null, .null, .null, .null, .null, .null, .int 0]))] sz) cI cZ cJ h0) 49 1805 (va_A [(h0, .inr (6, [.null, .null, .null, .null, .null, .null, .int 0]))] sz) := by
  refine Met.ofW (cc := cX6_init) (maxL := 1) (ret := none) (by decide) rfl ?_
  intro p e s m args below meth c s₁ B hml hv
  obtain ⟨rfl, hsz, hP, hK, hO, hD0⟩ := hv
  have hx := B.exec
  have hb := B.bytes
  have hr := B.returns
  have hts : ∀ w ∈ TT, w.before _ s = true := fun w hw => atoms_spec (ws := Cond.code yX6_init cX6_init 1 none :: TT) B.pre w (List.mem_cons_of_mem _ hw)
  have hown : s.vm.findClass RX6 = some m.cls := findClass_of_methodNamed B.named
  have hlocks := B.notSynchronized
  have hin : meth.name = "<init>" := (name_of_methodNamed B.named B.method).1
  subst hsz
  have hD := hD0.self (sz := s.heap.size)
  generalize hAe : va_A [(h0, .inr (6, [.null, .null, .null, .null, .null, .null, .int 0]))] s.heap.size = A at hD ⊢
  have hA : ∀ q : Nat, s.heap.size ≤ q → A q := fun q h => by rw [← hAe]; exact Or.inr h
  have hS : va_S A s.heap s.heap [] := va_S.rf
  have hP : va_P D vwCl [(h0, .inr (6, [.null, .null, .null, .null, .null, .null, .int 0]))] s.heap := hP
  have hl := lv_entry ([.ref h0]) (n := 1) (Nat.le_of_ble_eq_true rfl)
  rw [lg_entry_eq]
  generalize (lg_sl ([.ref h0]) ++ List.replicate (1 - (lg_sl ([.ref h0])).length) Slot.unset).toArray = ls at hl ⊢
  have hl : lv_has ls 1 [(0, .ref h0)] := hl
  refine lv_aload_n hx hb dX6_init_0 rfl (lv_at hl 0 rfl) ?_
  refine W.objInit hx hb hown (hts _ tw_51) (hts _ tw_52) (hts _ tw_53) rfl (by rw [hml]; exact hl.1) rfl dX6_init_1 (Nat.le_of_ble_eq_true rfl) (Nat.le_of_ble_eq_true rfl) ?_
  refine W.eq (g2 := F0 m 4 ls []) rfl ?_
  refine lv_aload_n hx hb dX6_init_4 rfl (lv_at hl 0 rfl) ?_
  refine va_new (ci := 4) (fs := [.null, .null, .null, .null, .null, .int 0, .int 0]) (C := RX4) (T := TX4) (N := 7) hx hb hts inT4 tyX4 tyX4_ok hown (hts _ tw_54) (hts _ tw_55) (hts _ tw_32) hK hP hD hS hA rfl (fun j hj => by rcases (show j = 0 ∨ j = 1 ∨ j = 2 ∨ j = 3 ∨ j = 4 ∨ j = 5 ∨ j = 6 by omega) with rfl | rfl | rfl | rfl | rfl | rfl | rfl <;> rfl) (Nat.le_of_ble_eq_true rfl) (Nat.le_of_ble_eq_true rfl) dX6_init_5 (fun qx H hP hD hS => ?_)
  refine W.widen (k := 1) (n := 7) (Nat.le_of_ble_eq_true rfl) (Nat.le_of_ble_eq_true rfl) ?_
  have hP : va_P D vwCl (((h0, .inr (6, [.null, .null, .null, .null, .null, .null, .int 0])) :: (([] : va_W))) ++ [(qx, .inr (4, [.null, .null, .null, .null, .null, .int 0, .int 0]))]) H := hP
  have hD : va_D A (((h0, .inr (6, [.null, .null, .null, .null, .null, .null, .int 0])) :: (([] : va_W))) ++ [(qx, .inr (4, [.null, .null, .null, .null, .null, .int 0, .int 0]))]) := hD
  refine lv_dup hx hb dX6_init_8 rfl ?_
  have hFc := k_free hD hS hA
  refine va_callv (va_runI (As := []) (rest := [.ref qx, .ref h0]) ⟨hx, hb, hml, hown, hts⟩ (k_X4 l D cI cZ cJ qx H.size) (cwI 0 hts (gi_c tw_58) rfl rfl rfl (hts _ tw_32) (hts _ tw_56) (hts _ tw_57) rfl (by decide +kernel) ⟨Nat.le_of_ble_eq_true rfl, Nat.le_of_ble_eq_true rfl⟩) ⟨kPc_blind, fun U hU hW => ⟨rfl, by rw [hU], by rw [hU]; exact k_lastP hP, va_K.moved hW.alike hK, va_AOA.moved hW.alike hO, k_lastD hD⟩⟩ rfl rfl hl.1 rfl (lv_room (Nat.le_of_ble_eq_true rfl)) dX6_init_9 ⟨Nat.le_of_ble_eq_true rfl, Nat.le_of_ble_eq_true rfl⟩) hS (fun q _ h => hFc q h) hFc (fun u t H1 locs ht hvm hw hB hz1 hk1 hS => ?_)
  obtain ⟨ro, cQ, ea, hP1, hK1, hD1⟩ := hB
  rw [ht] at hP1
  have hKQ := va_K.moved hvm.symm hK1
  obtain ⟨hP, hD⟩ := k_join hP hD hk1 hFc hP1 hD1
  generalize H1 = H at hP hS ⊢
  rw [← ea]
  have hP : va_P D vwCl ((h0, .inr (6, [.null, .null, .null, .null, .null, .null, .int 0])) :: ((([] : va_W) ++ kRW cI cQ ro (kDX 12 0)))) H := hP
  have hD : va_D A ((h0, .inr (6, [.null, .null, .null, .null, .null, .null, .int 0])) :: ((([] : va_W) ++ kRW cI cQ ro (kDX 12 0)))) := hD
  refine W.widen (k := 18) (n := 259) (Nat.le_of_ble_eq_true rfl) (Nat.le_of_ble_eq_true rfl) ?_
  refine va_putF (D := D) (ci := 6) (v := .ref (ro 0)) (ty := .object "Tollweave$Roads") (C := RX6) (T := TX6) (N := 7) hx hb hts inT6 tyX6 tyX6_ok nmX6 hown hK hP hD hS 0 rfl rfl 0 (by decide) (hts _ tw_229) (fun _ h9 => h9) rfl hin rfl (by decide +kernel) rfl rfl (Nat.le_of_ble_eq_true rfl) dX6_init_12 (fun H locs hP hD hS => ?_)
  have hP : va_P D vwCl ((h0, .inr (6, [.ref (ro 0), .null, .null, .null, .null, .null, .int 0])) :: ((([] : va_W) ++ kRW cI cQ ro (kDX 12 0)))) H := hP
  have hD : va_D A ((h0, .inr (6, [.ref (ro 0), .null, .null, .null, .null, .null, .int 0])) :: ((([] : va_W) ++ kRW cI cQ ro (kDX 12 0)))) := hD
  refine lv_aload_n hx hb dX6_init_15 rfl (lv_at hl 0 rfl) ?_
  refine va_new (ci := 5) (fs := [.null, .null, .int 0]) (C := RX5) (T := TX5) (N := 3) hx hb hts inT5 tyX5 tyX5_ok hown (hts _ tw_91) (hts _ tw_92) (hts _ tw_33) hK hP hD hS hA rfl (fun j hj => by rcases (show j = 0 ∨ j = 1 ∨ j = 2 by omega) with rfl | rfl | rfl <;> rfl) (Nat.le_of_ble_eq_true rfl) (Nat.le_of_ble_eq_true rfl) dX6_init_16 (fun qt H hP hD hS => ?_)
  refine W.widen (k := 19) (n := 262) (Nat.le_of_ble_eq_true rfl) (Nat.le_of_ble_eq_true rfl) ?_
  have hP : va_P D vwCl (((h0, .inr (6, [.ref (ro 0), .null, .null, .null, .null, .null, .int 0])) :: ((([] : va_W) ++ kRW cI cQ ro (kDX 12 0)))) ++ [(qt, .inr (5, [.null, .null, .int 0]))]) H := hP
  have hD : va_D A (((h0, .inr (6, [.ref (ro 0), .null, .null, .null, .null, .null, .int 0])) :: ((([] : va_W) ++ kRW cI cQ ro (kDX 12 0)))) ++ [(qt, .inr (5, [.null, .null, .int 0]))]) := hD
  refine lv_dup hx hb dX6_init_19 rfl ?_
  have hFc := k_free hD hS hA
  refine va_callv (va_runI (As := []) (rest := [.ref qt, .ref h0]) ⟨hx, hb, hml, hown, hts⟩ (k_X5 l D cI cZ cJ qt H.size) (cwI 0 hts (gi_c tw_95) rfl rfl rfl (hts _ tw_33) (hts _ tw_93) (hts _ tw_94) rfl (by decide +kernel) ⟨Nat.le_of_ble_eq_true rfl, Nat.le_of_ble_eq_true rfl⟩) ⟨kPc_blind, fun U hU hW => ⟨rfl, by rw [hU], by rw [hU]; exact k_lastP hP, va_K.moved hW.alike hK, va_AOA.moved hW.alike hO, k_lastD hD⟩⟩ rfl rfl hl.1 rfl (lv_room (Nat.le_of_ble_eq_true rfl)) dX6_init_20 ⟨Nat.le_of_ble_eq_true rfl, Nat.le_of_ble_eq_true rfl⟩) hS (fun q _ h => hFc q h) hFc (fun u t H1 locs ht hvm hw hB hz1 hk1 hS => ?_)
  obtain ⟨rt, hP1, hD1⟩ := hB
  rw [ht] at hP1
  obtain ⟨hP, hD⟩ := k_join hP hD hk1 hFc hP1 hD1
  generalize H1 = H at hP hS ⊢
  have hP : va_P D vwCl ((h0, .inr (6, [.ref (ro 0), .null, .null, .null, .null, .null, .int 0])) :: (((([] : va_W) ++ kRW cI cQ ro (kDX 12 0)) ++ kW5 cI cZ cJ qt rt))) H := hP
  have hD : va_D A ((h0, .inr (6, [.ref (ro 0), .null, .null, .null, .null, .null, .int 0])) :: (((([] : va_W) ++ kRW cI cQ ro (kDX 12 0)) ++ kW5 cI cZ cJ qt rt))) := hD
  refine W.widen (k := 21) (n := 268) (Nat.le_of_ble_eq_true rfl) (Nat.le_of_ble_eq_true rfl) ?_
  refine va_putF (D := D) (ci := 6) (v := .ref qt) (ty := .object "Tollweave$Tariff") (C := RX6) (T := TX6) (N := 7) hx hb hts inT6 tyX6 tyX6_ok nmX6 hown hK hP hD hS 0 rfl rfl 1 (by decide) (hts _ tw_230) (fun _ h9 => h9) rfl hin rfl (by decide +kernel) rfl rfl (Nat.le_of_ble_eq_true rfl) dX6_init_23 (fun H locs hP hD hS => ?_)
  have hP : va_P D vwCl ((h0, .inr (6, [.ref (ro 0), .ref qt, .null, .null, .null, .null, .int 0])) :: (((([] : va_W) ++ kRW cI cQ ro (kDX 12 0)) ++ kW5 cI cZ cJ qt rt))) H := hP
  have hD : va_D A ((h0, .inr (6, [.ref (ro 0), .ref qt, .null, .null, .null, .null, .int 0])) :: (((([] : va_W) ++ kRW cI cQ ro (kDX 12 0)) ++ kW5 cI cZ cJ qt rt))) := hD
  refine lv_aload_n hx hb dX6_init_26 rfl (lv_at hl 0 rfl) ?_
  refine va_new (ci := 2) (fs := [.null, .null, .null, .null, .null, .int 0]) (C := RX2) (T := TX2) (N := 6) hx hb hts inT2 tyX2 tyX2_ok hown (hts _ tw_110) (hts _ tw_111) (hts _ tw_34) hK hP hD hS hA rfl (fun j hj => by rcases (show j = 0 ∨ j = 1 ∨ j = 2 ∨ j = 3 ∨ j = 4 ∨ j = 5 by omega) with rfl | rfl | rfl | rfl | rfl | rfl <;> rfl) (Nat.le_of_ble_eq_true rfl) (Nat.le_of_ble_eq_true rfl) dX6_init_27 (fun qp H hP hD hS => ?_)
  refine W.widen (k := 22) (n := 274) (Nat.le_of_ble_eq_true rfl) (Nat.le_of_ble_eq_true rfl) ?_
  have hP : va_P D vwCl (((h0, .inr (6, [.ref (ro 0), .ref qt, .null, .null, .null, .null, .int 0])) :: (((([] : va_W) ++ kRW cI cQ ro (kDX 12 0)) ++ kW5 cI cZ cJ qt rt))) ++ [(qp, .inr (2, [.null, .null, .null, .null, .null, .int 0]))]) H := hP
  have hD : va_D A (((h0, .inr (6, [.ref (ro 0), .ref qt, .null, .null, .null, .null, .int 0])) :: (((([] : va_W) ++ kRW cI cQ ro (kDX 12 0)) ++ kW5 cI cZ cJ qt rt))) ++ [(qp, .inr (2, [.null, .null, .null, .null, .null, .int 0]))]) := hD
  refine lv_dup hx hb dX6_init_30 rfl ?_
  have hFc := k_free hD hS hA
  refine va_callv (va_runI (As := []) (rest := [.ref qp, .ref h0]) ⟨hx, hb, hml, hown, hts⟩ (k_X2 l D cI cZ cJ qp H.size) (cwI 0 hts (gi_c tw_114) rfl rfl rfl (hts _ tw_34) (hts _ tw_112) (hts _ tw_113) rfl (by decide +kernel) ⟨Nat.le_of_ble_eq_true rfl, Nat.le_of_ble_eq_true rfl⟩) ⟨kPc_blind, fun U hU hW => ⟨rfl, by rw [hU], by rw [hU]; exact k_lastP hP, va_K.moved hW.alike hK, va_AOA.moved hW.alike hO, k_lastD hD⟩⟩ rfl rfl hl.1 rfl (lv_room (Nat.le_of_ble_eq_true rfl)) dX6_init_31 ⟨Nat.le_of_ble_eq_true rfl, Nat.le_of_ble_eq_true rfl⟩) hS (fun q _ h => hFc q h) hFc (fun u t H1 locs ht hvm hw hB hz1 hk1 hS => ?_)
  obtain ⟨rp, hP1, hD1⟩ := hB
  rw [ht] at hP1
  obtain ⟨hP, hD⟩ := k_join hP hD hk1 hFc hP1 hD1
  generalize H1 = H at hP hS ⊢
  have hP : va_P D vwCl ((h0, .inr (6, [.ref (ro 0), .ref qt, .null, .null, .null, .null, .int 0])) :: ((((([] : va_W) ++ kRW cI cQ ro (kDX 12 0)) ++ kW5 cI cZ cJ qt rt) ++ kW2 cI cZ cJ qp rp))) H := hP
  have hD : va_D A ((h0, .inr (6, [.ref (ro 0), .ref qt, .null, .null, .null, .null, .int 0])) :: ((((([] : va_W) ++ kRW cI cQ ro (kDX 12 0)) ++ kW5 cI cZ cJ qt rt) ++ kW2 cI cZ cJ qp rp))) := hD
  refine W.widen (k := 27) (n := 354) (Nat.le_of_ble_eq_true rfl) (Nat.le_of_ble_eq_true rfl) ?_
  refine va_putF (D := D) (ci := 6) (v := .ref qp) (ty := .object "Tollweave$Plates") (C := RX6) (T := TX6) (N := 7) hx hb hts inT6 tyX6 tyX6_ok nmX6 hown hK hP hD hS 0 rfl rfl 2 (by decide) (hts _ tw_231) (fun _ h9 => h9) rfl hin rfl (by decide +kernel) rfl rfl (Nat.le_of_ble_eq_true rfl) dX6_init_34 (fun H locs hP hD hS => ?_)
  have hP : va_P D vwCl ((h0, .inr (6, [.ref (ro 0), .ref qt, .ref qp, .null, .null, .null, .int 0])) :: ((((([] : va_W) ++ kRW cI cQ ro (kDX 12 0)) ++ kW5 cI cZ cJ qt rt) ++ kW2 cI cZ cJ qp rp))) H := hP
  have hD : va_D A ((h0, .inr (6, [.ref (ro 0), .ref qt, .ref qp, .null, .null, .null, .int 0])) :: ((((([] : va_W) ++ kRW cI cQ ro (kDX 12 0)) ++ kW5 cI cZ cJ qt rt) ++ kW2 cI cZ cJ qp rp))) := hD
  refine lv_aload_n hx hb dX6_init_37 rfl (lv_at hl 0 rfl) ?_
  refine va_new (ci := 3) (fs := [.null, .null, .null, .null, .null, .int 0]) (C := RX3) (T := TX3) (N := 6) hx hb hts inT3 tyX3 tyX3_ok hown (hts _ tw_138) (hts _ tw_139) (hts _ tw_35) hK hP hD hS hA rfl (fun j hj => by rcases (show j = 0 ∨ j = 1 ∨ j = 2 ∨ j = 3 ∨ j = 4 ∨ j = 5 by omega) with rfl | rfl | rfl | rfl | rfl | rfl <;> rfl) (Nat.le_of_ble_eq_true rfl) (Nat.le_of_ble_eq_true rfl) dX6_init_38 (fun qr H hP hD hS => ?_)
  refine W.widen (k := 28) (n := 360) (Nat.le_of_ble_eq_true rfl) (Nat.le_of_ble_eq_true rfl) ?_
  have hP : va_P D vwCl (((h0, .inr (6, [.ref (ro 0), .ref qt, .ref qp, .null, .null, .null, .int 0])) :: ((((([] : va_W) ++ kRW cI cQ ro (kDX 12 0)) ++ kW5 cI cZ cJ qt rt) ++ kW2 cI cZ cJ qp rp))) ++ [(qr, .inr (3, [.null, .null, .null, .null, .null, .int 0]))]) H := hP
  have hD : va_D A (((h0, .inr (6, [.ref (ro 0), .ref qt, .ref qp, .null, .null, .null, .int 0])) :: ((((([] : va_W) ++ kRW cI cQ ro (kDX 12 0)) ++ kW5 cI cZ cJ qt rt) ++ kW2 cI cZ cJ qp rp))) ++ [(qr, .inr (3, [.null, .null, .null, .null, .null, .int 0]))]) := hD
  refine lv_dup hx hb dX6_init_41 rfl ?_
  have hFc := k_free hD hS hA
  refine va_callv (va_runI (As := []) (rest := [.ref qr, .ref h0]) ⟨hx, hb, hml, hown, hts⟩ (k_X3 l D cI cZ cJ qr H.size) (cwI 0 hts (gi_c tw_142) rfl rfl rfl (hts _ tw_35) (hts _ tw_140) (hts _ tw_141) rfl (by decide +kernel) ⟨Nat.le_of_ble_eq_true rfl, Nat.le_of_ble_eq_true rfl⟩) ⟨kPc_blind, fun U hU hW => ⟨rfl, by rw [hU], by rw [hU]; exact k_lastP hP, va_K.moved hW.alike hK, va_AOA.moved hW.alike hO, k_lastD hD⟩⟩ rfl rfl hl.1 rfl (lv_room (Nat.le_of_ble_eq_true rfl)) dX6_init_42 ⟨Nat.le_of_ble_eq_true rfl, Nat.le_of_ble_eq_true rfl⟩) hS (fun q _ h => hFc q h) hFc (fun u t H1 locs ht hvm hw hB hz1 hk1 hS => ?_)
  obtain ⟨rr, hP1, hD1⟩ := hB
  rw [ht] at hP1
  obtain ⟨hP, hD⟩ := k_join hP hD hk1 hFc hP1 hD1
  generalize H1 = H at hP hS ⊢
  have hP : va_P D vwCl ((h0, .inr (6, [.ref (ro 0), .ref qt, .ref qp, .null, .null, .null, .int 0])) :: (((((([] : va_W) ++ kRW cI cQ ro (kDX 12 0)) ++ kW5 cI cZ cJ qt rt) ++ kW2 cI cZ cJ qp rp) ++ kW3 cI cZ cJ qr rr))) H := hP
  have hD : va_D A ((h0, .inr (6, [.ref (ro 0), .ref qt, .ref qp, .null, .null, .null, .int 0])) :: (((((([] : va_W) ++ kRW cI cQ ro (kDX 12 0)) ++ kW5 cI cZ cJ qt rt) ++ kW2 cI cZ cJ qp rp) ++ kW3 cI cZ cJ qr rr))) := hD
  refine W.widen (k := 33) (n := 860) (Nat.le_of_ble_eq_true rfl) (Nat.le_of_ble_eq_true rfl) ?_
  refine va_putF (D := D) (ci := 6) (v := .ref qr) (ty := .object "Tollweave$Readings") (C := RX6) (T := TX6) (N := 7) hx hb hts inT6 tyX6 tyX6_ok nmX6 hown hK hP hD hS 0 rfl rfl 3 (by decide) (hts _ tw_232) (fun _ h9 => h9) rfl hin rfl (by decide +kernel) rfl rfl (Nat.le_of_ble_eq_true rfl) dX6_init_45 (fun H locs hP hD hS => ?_)
  have hP : va_P D vwCl ((h0, .inr (6, [.ref (ro 0), .ref qt, .ref qp, .ref qr, .null, .null, .int 0])) :: (((((([] : va_W) ++ kRW cI cQ ro (kDX 12 0)) ++ kW5 cI cZ cJ qt rt) ++ kW2 cI cZ cJ qp rp) ++ kW3 cI cZ cJ qr rr))) H := hP
  have hD : va_D A ((h0, .inr (6, [.ref (ro 0), .ref qt, .ref qp, .ref qr, .null, .null, .int 0])) :: (((((([] : va_W) ++ kRW cI cQ ro (kDX 12 0)) ++ kW5 cI cZ cJ qt rt) ++ kW2 cI cZ cJ qp rp) ++ kW3 cI cZ cJ qr rr))) := hD
  refine lv_aload_n hx hb dX6_init_48 rfl (lv_at hl 0 rfl) ?_
  refine va_new (ci := 1) (fs := [.null, .null, .null, .null, .null, .null, .int 0]) (C := RX1) (T := TX1) (N := 7) hx hb hts inT1 tyX1 tyX1_ok hown (hts _ tw_170) (hts _ tw_171) (hts _ tw_36) hK hP hD hS hA rfl (fun j hj => by rcases (show j = 0 ∨ j = 1 ∨ j = 2 ∨ j = 3 ∨ j = 4 ∨ j = 5 ∨ j = 6 by omega) with rfl | rfl | rfl | rfl | rfl | rfl | rfl <;> rfl) (Nat.le_of_ble_eq_true rfl) (Nat.le_of_ble_eq_true rfl) dX6_init_49 (fun qj H hP hD hS => ?_)
  refine W.widen (k := 34) (n := 867) (Nat.le_of_ble_eq_true rfl) (Nat.le_of_ble_eq_true rfl) ?_
  have hP : va_P D vwCl (((h0, .inr (6, [.ref (ro 0), .ref qt, .ref qp, .ref qr, .null, .null, .int 0])) :: (((((([] : va_W) ++ kRW cI cQ ro (kDX 12 0)) ++ kW5 cI cZ cJ qt rt) ++ kW2 cI cZ cJ qp rp) ++ kW3 cI cZ cJ qr rr))) ++ [(qj, .inr (1, [.null, .null, .null, .null, .null, .null, .int 0]))]) H := hP
  have hD : va_D A (((h0, .inr (6, [.ref (ro 0), .ref qt, .ref qp, .ref qr, .null, .null, .int 0])) :: (((((([] : va_W) ++ kRW cI cQ ro (kDX 12 0)) ++ kW5 cI cZ cJ qt rt) ++ kW2 cI cZ cJ qp rp) ++ kW3 cI cZ cJ qr rr))) ++ [(qj, .inr (1, [.null, .null, .null, .null, .null, .null, .int 0]))]) := hD
  refine lv_dup hx hb dX6_init_52 rfl ?_
  have hFc := k_free hD hS hA
  refine va_callv (va_runI (As := []) (rest := [.ref qj, .ref h0]) ⟨hx, hb, hml, hown, hts⟩ (k_X1 l D cI cZ cJ qj H.size) (cwI 0 hts (gi_c tw_174) rfl rfl rfl (hts _ tw_36) (hts _ tw_172) (hts _ tw_173) rfl (by decide +kernel) ⟨Nat.le_of_ble_eq_true rfl, Nat.le_of_ble_eq_true rfl⟩) ⟨kPc_blind, fun U hU hW => ⟨rfl, by rw [hU], by rw [hU]; exact k_lastP hP, va_K.moved hW.alike hK, va_AOA.moved hW.alike hO, k_lastD hD⟩⟩ rfl rfl hl.1 rfl (lv_room (Nat.le_of_ble_eq_true rfl)) dX6_init_53 ⟨Nat.le_of_ble_eq_true rfl, Nat.le_of_ble_eq_true rfl⟩) hS (fun q _ h => hFc q h) hFc (fun u t H1 locs ht hvm hw hB hz1 hk1 hS => ?_)
  obtain ⟨rj, cQ9, hP1, hK1, hD1⟩ := hB
  rw [ht] at hP1
  have hK1 := va_K.moved hvm.symm hK1
  have e9 : cQ9 = cQ := Option.some.inj (((hK1.2 0 _ rfl).2 : s.vm.findClass _ = some _).symm.trans ((hKQ.2 0 _ rfl).2 : s.vm.findClass _ = some _))
  rw [e9] at hP1 hD1
  obtain ⟨hP, hD⟩ := k_join hP hD hk1 hFc hP1 hD1
  generalize H1 = H at hP hS ⊢
  have hP : va_P D vwCl ((h0, .inr (6, [.ref (ro 0), .ref qt, .ref qp, .ref qr, .null, .null, .int 0])) :: ((((((([] : va_W) ++ kRW cI cQ ro (kDX 12 0)) ++ kW5 cI cZ cJ qt rt) ++ kW2 cI cZ cJ qp rp) ++ kW3 cI cZ cJ qr rr) ++ kW1 cI cZ cJ qj rj cQ))) H := hP
  have hD : va_D A ((h0, .inr (6, [.ref (ro 0), .ref qt, .ref qp, .ref qr, .null, .null, .int 0])) :: ((((((([] : va_W) ++ kRW cI cQ ro (kDX 12 0)) ++ kW5 cI cZ cJ qt rt) ++ kW2 cI cZ cJ qp rp) ++ kW3 cI cZ cJ qr rr) ++ kW1 cI cZ cJ qj rj cQ))) := hD
  refine W.widen (k := 44) (n := 1771) (Nat.le_of_ble_eq_true rfl) (Nat.le_of_ble_eq_true rfl) ?_
  refine va_putF (D := D) (ci := 6) (v := .ref qj) (ty := .object "Tollweave$Journeys") (C := RX6) (T := TX6) (N := 7) hx hb hts inT6 tyX6 tyX6_ok nmX6 hown hK hP hD hS 0 rfl rfl 4 (by decide) (hts _ tw_233) (fun _ h9 => h9) rfl hin rfl (by decide +kernel) rfl rfl (Nat.le_of_ble_eq_true rfl) dX6_init_56 (fun H locs hP hD hS => ?_)
  have hP : va_P D vwCl ((h0, .inr (6, [.ref (ro 0), .ref qt, .ref qp, .ref qr, .ref qj, .null, .int 0])) :: ((((((([] : va_W) ++ kRW cI cQ ro (kDX 12 0)) ++ kW5 cI cZ cJ qt rt) ++ kW2 cI cZ cJ qp rp) ++ kW3 cI cZ cJ qr rr) ++ kW1 cI cZ cJ qj rj cQ))) H := hP
  have hD : va_D A ((h0, .inr (6, [.ref (ro 0), .ref qt, .ref qp, .ref qr, .ref qj, .null, .int 0])) :: ((((((([] : va_W) ++ kRW cI cQ ro (kDX 12 0)) ++ kW5 cI cZ cJ qt rt) ++ kW2 cI cZ cJ qp rp) ++ kW3 cI cZ cJ qr rr) ++ kW1 cI cZ cJ qj rj cQ))) := hD
  refine lv_aload_n hx hb dX6_init_59 rfl (lv_at hl 0 rfl) ?_
  refine va_new (ci := 0) (fs := [.null, .null, .null, .null]) (C := RX0) (T := TX0) (N := 4) hx hb hts inT0 tyX0 tyX0_ok hown (hts _ tw_205) (hts _ tw_206) (hts _ tw_37) hK hP hD hS hA rfl (fun j hj => by rcases (show j = 0 ∨ j = 1 ∨ j = 2 ∨ j = 3 by omega) with rfl | rfl | rfl | rfl <;> rfl) (Nat.le_of_ble_eq_true rfl) (Nat.le_of_ble_eq_true rfl) dX6_init_60 (fun qa H hP hD hS => ?_)
  refine W.widen (k := 45) (n := 1775) (Nat.le_of_ble_eq_true rfl) (Nat.le_of_ble_eq_true rfl) ?_
  have hP : va_P D vwCl (((h0, .inr (6, [.ref (ro 0), .ref qt, .ref qp, .ref qr, .ref qj, .null, .int 0])) :: ((((((([] : va_W) ++ kRW cI cQ ro (kDX 12 0)) ++ kW5 cI cZ cJ qt rt) ++ kW2 cI cZ cJ qp rp) ++ kW3 cI cZ cJ qr rr) ++ kW1 cI cZ cJ qj rj cQ))) ++ [(qa, .inr (0, [.null, .null, .null, .null]))]) H := hP
  have hD : va_D A (((h0, .inr (6, [.ref (ro 0), .ref qt, .ref qp, .ref qr, .ref qj, .null, .int 0])) :: ((((((([] : va_W) ++ kRW cI cQ ro (kDX 12 0)) ++ kW5 cI cZ cJ qt rt) ++ kW2 cI cZ cJ qp rp) ++ kW3 cI cZ cJ qr rr) ++ kW1 cI cZ cJ qj rj cQ))) ++ [(qa, .inr (0, [.null, .null, .null, .null]))]) := hD
  refine lv_dup hx hb dX6_init_63 rfl ?_
  have hFc := k_free hD hS hA
  refine va_callv (va_runI (As := []) (rest := [.ref qa, .ref h0]) ⟨hx, hb, hml, hown, hts⟩ (k_X0 l D cI cZ cJ qa H.size) (cwI 0 hts (gi_c tw_209) rfl rfl rfl (hts _ tw_37) (hts _ tw_207) (hts _ tw_208) rfl (by decide +kernel) ⟨Nat.le_of_ble_eq_true rfl, Nat.le_of_ble_eq_true rfl⟩) ⟨kPc_blind, fun U hU hW => ⟨rfl, by rw [hU], by rw [hU]; exact k_lastP hP, va_K.moved hW.alike hK, va_AOA.moved hW.alike hO, k_lastD hD⟩⟩ rfl rfl hl.1 rfl (lv_room (Nat.le_of_ble_eq_true rfl)) dX6_init_64 ⟨Nat.le_of_ble_eq_true rfl, Nat.le_of_ble_eq_true rfl⟩) hS (fun q _ h => hFc q h) hFc (fun u t H1 locs ht hvm hw hB hz1 hk1 hS => ?_)
  obtain ⟨ra, hP1, hD1⟩ := hB
  rw [ht] at hP1
  obtain ⟨hP, hD⟩ := k_join hP hD hk1 hFc hP1 hD1
  generalize H1 = H at hP hS ⊢
  have hP : va_P D vwCl ((h0, .inr (6, [.ref (ro 0), .ref qt, .ref qp, .ref qr, .ref qj, .null, .int 0])) :: (((((((([] : va_W) ++ kRW cI cQ ro (kDX 12 0)) ++ kW5 cI cZ cJ qt rt) ++ kW2 cI cZ cJ qp rp) ++ kW3 cI cZ cJ qr rr) ++ kW1 cI cZ cJ qj rj cQ) ++ kW0 cI cZ cJ qa ra))) H := hP
  have hD : va_D A ((h0, .inr (6, [.ref (ro 0), .ref qt, .ref qp, .ref qr, .ref qj, .null, .int 0])) :: (((((((([] : va_W) ++ kRW cI cQ ro (kDX 12 0)) ++ kW5 cI cZ cJ qt rt) ++ kW2 cI cZ cJ qp rp) ++ kW3 cI cZ cJ qr rr) ++ kW1 cI cZ cJ qj rj cQ) ++ kW0 cI cZ cJ qa ra))) := hD
  refine W.widen (k := 49) (n := 1805) (Nat.le_of_ble_eq_true rfl) (Nat.le_of_ble_eq_true rfl) ?_
  refine va_putF (D := D) (ci := 6) (v := .ref qa) (ty := .object "Tollweave$Accounts") (C := RX6) (T := TX6) (N := 7) hx hb hts inT6 tyX6 tyX6_ok nmX6 hown hK hP hD hS 0 rfl rfl 5 (by decide) (hts _ tw_234) (fun _ h9 => h9) rfl hin rfl (by decide +kernel) rfl rfl (Nat.le_of_ble_eq_true rfl) dX6_init_67 (fun H locs hP hD hS => ?_)
  have hP : va_P D vwCl ((h0, .inr (6, [.ref (ro 0), .ref qt, .ref qp, .ref qr, .ref qj, .ref qa, .int 0])) :: (((((((([] : va_W) ++ kRW cI cQ ro (kDX 12 0)) ++ kW5 cI cZ cJ qt rt) ++ kW2 cI cZ cJ qp rp) ++ kW3 cI cZ cJ qr rr) ++ kW1 cI cZ cJ qj rj cQ) ++ kW0 cI cZ cJ qa ra))) H := hP
  have hD : va_D A ((h0, .inr (6, [.ref (ro 0), .ref qt, .ref qp, .ref qr, .ref qj, .ref qa, .int 0])) :: (((((((([] : va_W) ++ kRW cI cQ ro (kDX 12 0)) ++ kW5 cI cZ cJ qt rt) ++ kW2 cI cZ cJ qp rp) ++ kW3 cI cZ cJ qr rr) ++ kW1 cI cZ cJ qj rj cQ) ++ kW0 cI cZ cJ qa ra))) := hD
  refine lv_aload_n hx hb dX6_init_70 rfl (lv_at hl 0 rfl) ?_
  refine lv_iconst (v := nI 0) hx hb dX6_init_71 (by decide) ?_
  refine va_put (D := D) (ci := 6) (v := .int (nI 0)) (ty := .int) (C := RX6) (T := TX6) (N := 7) hx hb hts inT6 tyX6 tyX6_ok nmX6 hown hK hP hD hS 0 rfl rfl 6 (by decide) (hts _ tw_235) (fun _ h9 => h9) rfl (by decide +kernel) rfl rfl (Nat.le_of_ble_eq_true rfl) dX6_init_72 (fun H locs hP hD hS => ?_)
  exact W.vret hx hb hr (fun t ht hW => ⟨⟨(), rfl, trivial, cQ, qt, qp, qr, qj, qa, ro, rt, rp, rr, rj, ra, by rw [ht]; exact hP, va_K.moved hW.alike hKQ, hD⟩, hS.F ht⟩) hS.2.2 dX6_init_75
