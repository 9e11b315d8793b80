def kW1 (cI cZ cJ : ClassId) (h0 : Nat) (r : Nat → Nat) (cQ : ClassId) : va_W := [(h0, .inr (1, [.ref (r 0), .ref (r 1), .ref (r 2), .ref (r 3), .ref (r 4), .ref (r 5), .int (nI 0)])), aI (r 0) cI 100, aI (r 1) cI 100, aI (r 2) cI 100, (r 3, .inl (cQ, 4, .inr (.inr (.inr (.inr (fun i => if i < 4 then some (r (i + 6)) else none)))))), aI (r 6) cI 100, aI (r 7) cI 100, aI (r 8) cI 100, aI (r 9) cI 100, aI (r 4) cI 100, aI (r 5) cZ 100]
set_option maxHeartbeats 4000000 in
set_option maxRecDepth 100000 in
theorem k_X1 (l : Launch) (D : va_G) (cI cZ cJ : ClassId) (h0 sz : Nat) : Met l yX1_init (Cond.code yX1_init cX1_init 1 none :: TT) { frames := 1, cells := 10, slots := 904, locals := 24 } (kPc D cI cZ cJ sz h0 1 [.null, .null, .null, .null, .null, .null, .int 0]) (kQ1 D (va_A [(h0, .inr (1, [.null, .null, .null, .null, .null, .null, .int 0]))] sz) (kW1 cI cZ cJ h0)) 10 904 (va_A [(h0, .inr (1, [.null, .null, .null, .null, .null, .null, .int 0]))] sz) := by
  refine Met.ofW (cc := cX1_init) (maxL := 1) (ret := none) (by decide) rfl ?_
  intro p e s m args below meth c s₁ B hml hv
  obtain ⟨rfl, hsz, hP, hK, hO, hD0⟩ := hv
  have hx := B.exec
  have hb := B.bytes
  have hr := B.returns
  have hts : ∀ w ∈ TT, w.before _ s = true := fun w hw => atoms_spec (ws := Cond.code yX1_init cX1_init 1 none :: TT) B.pre w (List.mem_cons_of_mem _ hw)
  have hown : s.vm.findClass RX1 = some m.cls := findClass_of_methodNamed B.named
  have hlocks := B.notSynchronized
  have hin : meth.name = "<init>" := (name_of_methodNamed B.named B.method).1
  subst hsz
  have hD := hD0.self (sz := s.heap.size)
  generalize hAe : va_A [(h0, .inr (1, [.null, .null, .null, .null, .null, .null, .int 0]))] s.heap.size = A at hD ⊢
  have hA : ∀ q : Nat, s.heap.size ≤ q → A q := fun q h => by rw [← hAe]; exact Or.inr h
  have hS : va_S A s.heap s.heap [] := va_S.rf
  have hP : va_P D vwCl [(h0, .inr (1, [.null, .null, .null, .null, .null, .null, .int 0]))] s.heap := hP
  have hl := lv_entry ([.ref h0]) (n := 1) (Nat.le_of_ble_eq_true rfl)
  rw [lg_entry_eq]
  generalize (lg_sl ([.ref h0]) ++ List.replicate (1 - (lg_sl ([.ref h0])).length) Slot.unset).toArray = ls at hl ⊢
  have hl : lv_has ls 1 [(0, .ref h0)] := hl
  refine lv_aload_n hx hb dX1_init_0 rfl (lv_at hl 0 rfl) ?_
  refine W.objInit hx hb hown (hts _ tw_175) (hts _ tw_52) (hts _ tw_53) rfl (by rw [hml]; exact hl.1) rfl dX1_init_1 (Nat.le_of_ble_eq_true rfl) (Nat.le_of_ble_eq_true rfl) ?_
  refine W.eq (g2 := F0 m 4 ls []) rfl ?_
  refine lv_aload_n hx hb dX1_init_4 rfl (lv_at hl 0 rfl) ?_
  refine lv_bipush (v := nI 100) hx hb dX1_init_5 (by decide) ?_
  refine k_newI hx hb hts hK hP hD hS hA 100 (by decide) 1 100 rfl rfl (Nat.le_of_ble_eq_true rfl) (Nat.le_of_ble_eq_true rfl) dX1_init_7 (fun q1 H hP hD hS => ?_)
  have hP : va_P D vwCl [(h0, .inr (1, [.null, .null, .null, .null, .null, .null, .int 0])), aI q1 cI 100] H := hP
  have hD : va_D A [(h0, .inr (1, [.null, .null, .null, .null, .null, .null, .int 0])), aI q1 cI 100] := hD
  refine va_putF (D := D) (ci := 1) (v := .ref q1) (ty := .array .int) (C := RX1) (T := TX1) (N := 7) hx hb hts inT1 tyX1 tyX1_ok nmX1 hown hK hP hD hS 0 rfl rfl 0 (by decide) (hts _ tw_177) (fun _ h9 => h9) rfl hin rfl (by decide +kernel) rfl rfl (Nat.le_of_ble_eq_true rfl) dX1_init_9 (fun H locs hP hD hS => ?_)
  have hP : va_P D vwCl [(h0, .inr (1, [.ref q1, .null, .null, .null, .null, .null, .int 0])), aI q1 cI 100] H := hP
  have hD : va_D A [(h0, .inr (1, [.ref q1, .null, .null, .null, .null, .null, .int 0])), aI q1 cI 100] := hD
  refine lv_aload_n hx hb dX1_init_12 rfl (lv_at hl 0 rfl) ?_
  refine lv_bipush (v := nI 100) hx hb dX1_init_13 (by decide) ?_
  refine k_newI hx hb hts hK hP hD hS hA 100 (by decide) 2 200 rfl rfl (Nat.le_of_ble_eq_true rfl) (Nat.le_of_ble_eq_true rfl) dX1_init_15 (fun q2 H hP hD hS => ?_)
  have hP : va_P D vwCl [(h0, .inr (1, [.ref q1, .null, .null, .null, .null, .null, .int 0])), aI q1 cI 100, aI q2 cI 100] H := hP
  have hD : va_D A [(h0, .inr (1, [.ref q1, .null, .null, .null, .null, .null, .int 0])), aI q1 cI 100, aI q2 cI 100] := hD
  refine va_putF (D := D) (ci := 1) (v := .ref q2) (ty := .array .int) (C := RX1) (T := TX1) (N := 7) hx hb hts inT1 tyX1 tyX1_ok nmX1 hown hK hP hD hS 0 rfl rfl 1 (by decide) (hts _ tw_179) (fun _ h9 => h9) rfl hin rfl (by decide +kernel) rfl rfl (Nat.le_of_ble_eq_true rfl) dX1_init_17 (fun H locs hP hD hS => ?_)
  have hP : va_P D vwCl [(h0, .inr (1, [.ref q1, .ref q2, .null, .null, .null, .null, .int 0])), aI q1 cI 100, aI q2 cI 100] H := hP
  have hD : va_D A [(h0, .inr (1, [.ref q1, .ref q2, .null, .null, .null, .null, .int 0])), aI q1 cI 100, aI q2 cI 100] := hD
  refine lv_aload_n hx hb dX1_init_20 rfl (lv_at hl 0 rfl) ?_
  refine lv_bipush (v := nI 100) hx hb dX1_init_21 (by decide) ?_
  refine k_newI hx hb hts hK hP hD hS hA 100 (by decide) 3 300 rfl rfl (Nat.le_of_ble_eq_true rfl) (Nat.le_of_ble_eq_true rfl) dX1_init_23 (fun q3 H hP hD hS => ?_)
  have hP : va_P D vwCl [(h0, .inr (1, [.ref q1, .ref q2, .null, .null, .null, .null, .int 0])), aI q1 cI 100, aI q2 cI 100, aI q3 cI 100] H := hP
  have hD : va_D A [(h0, .inr (1, [.ref q1, .ref q2, .null, .null, .null, .null, .int 0])), aI q1 cI 100, aI q2 cI 100, aI q3 cI 100] := hD
  refine va_putF (D := D) (ci := 1) (v := .ref q3) (ty := .array .int) (C := RX1) (T := TX1) (N := 7) hx hb hts inT1 tyX1 tyX1_ok nmX1 hown hK hP hD hS 0 rfl rfl 2 (by decide) (hts _ tw_181) (fun _ h9 => h9) rfl hin rfl (by decide +kernel) rfl rfl (Nat.le_of_ble_eq_true rfl) dX1_init_25 (fun H locs hP hD hS => ?_)
  have hP : va_P D vwCl [(h0, .inr (1, [.ref q1, .ref q2, .ref q3, .null, .null, .null, .int 0])), aI q1 cI 100, aI q2 cI 100, aI q3 cI 100] H := hP
  have hD : va_D A [(h0, .inr (1, [.ref q1, .ref q2, .ref q3, .null, .null, .null, .int 0])), aI q1 cI 100, aI q2 cI 100, aI q3 cI 100] := hD
  refine lv_aload_n hx hb dX1_init_28 rfl (lv_at hl 0 rfl) ?_
  refine lv_iconst (v := nI 4) hx hb dX1_init_29 (by decide) ?_
  refine lv_bipush (v := nI 100) hx hb dX1_init_30 (by decide) ?_
  have hfI : s.vm.findClass (FieldType.array .int).toString = some cI := (hK.2 0 _ rfl).2
  refine va_mna (X := [(h0, .inr (1, [.ref q1, .ref q2, .ref q3, .null, .null, .null, .int 0])), aI q1 cI 100, aI q2 cI 100, aI q3 cI 100]) (L := []) (f := fun _ => .inr (0, [])) (ty := .int) (cy := cI) (n := nI 4) (k := nI 100) (N' := 4) (K' := 100) (z := (100, .inl (fun _ => 0))) hx hb hown (by rw [show "[" ++ (FieldType.array .int).toString = "[[I" by decide +kernel]; exact hts _ tw_176) hO (hts (.arrayClass .int) tw_90) hfI hK hP hD hS hA (by decide) (by decide) (nI_clamp (by decide)) (nI_clamp (by decide)) (by decide) (by decide) (by decide) rfl rfl (Nat.le_of_ble_eq_true rfl) (Nat.le_of_ble_eq_true rfl) (fun c9 => by show ({ cls := c9, slots := Array.replicate 100 (.int 0), vm := .none } : Cell) = _; rw [arrV_new]; rfl) dX1_init_32 (fun q4 r cQ H hinj _ hK4 hP hD hS => ?_)
  have hrow : ∀ f : Nat → va_E, va_pl ([] ++ (List.range 4).map r) (vr_up f ((List.range 4).map r) (.inl (cI, 100, .inl (fun _ => 0)))) = [aI (r 0) cI 100, aI (r 1) cI 100, aI (r 2) cI 100, aI (r 3) cI 100] := fun f => (vr_rows (f := f) (fun _ _ h9 => absurd h9 List.not_mem_nil)).symm
  rw [hrow] at hP hD
  have hKQ : va_K D vwCl [(cQ, .array .int)] s := hK4.sub [3] rfl
  have hP : va_P D vwCl [(h0, .inr (1, [.ref q1, .ref q2, .ref q3, .null, .null, .null, .int 0])), aI q1 cI 100, aI q2 cI 100, aI q3 cI 100, (q4, .inl (cQ, 4, .inr (.inr (.inr (.inr (fun i => if i < 4 then some (r i) else none)))))), aI (r 0) cI 100, aI (r 1) cI 100, aI (r 2) cI 100, aI (r 3) cI 100] H := hP
  have hD : va_D A [(h0, .inr (1, [.ref q1, .ref q2, .ref q3, .null, .null, .null, .int 0])), aI q1 cI 100, aI q2 cI 100, aI q3 cI 100, (q4, .inl (cQ, 4, .inr (.inr (.inr (.inr (fun i => if i < 4 then some (r i) else none)))))), aI (r 0) cI 100, aI (r 1) cI 100, aI (r 2) cI 100, aI (r 3) cI 100] := hD
  refine W.widen (k := 8) (n := 704) (Nat.le_of_ble_eq_true rfl) (Nat.le_of_ble_eq_true rfl) ?_
  refine va_putF (D := D) (ci := 1) (v := .ref q4) (ty := .array (.array .int)) (C := RX1) (T := TX1) (N := 7) hx hb hts inT1 tyX1 tyX1_ok nmX1 hown hK hP hD hS 0 rfl rfl 3 (by decide) (hts _ tw_183) (fun _ h9 => h9) rfl hin rfl (by decide +kernel) rfl rfl (Nat.le_of_ble_eq_true rfl) dX1_init_36 (fun H locs hP hD hS => ?_)
  have hP : va_P D vwCl [(h0, .inr (1, [.ref q1, .ref q2, .ref q3, .ref q4, .null, .null, .int 0])), aI q1 cI 100, aI q2 cI 100, aI q3 cI 100, (q4, .inl (cQ, 4, .inr (.inr (.inr (.inr (fun i => if i < 4 then some (r i) else none)))))), aI (r 0) cI 100, aI (r 1) cI 100, aI (r 2) cI 100, aI (r 3) cI 100] H := hP
  have hD : va_D A [(h0, .inr (1, [.ref q1, .ref q2, .ref q3, .ref q4, .null, .null, .int 0])), aI q1 cI 100, aI q2 cI 100, aI q3 cI 100, (q4, .inl (cQ, 4, .inr (.inr (.inr (.inr (fun i => if i < 4 then some (r i) else none)))))), aI (r 0) cI 100, aI (r 1) cI 100, aI (r 2) cI 100, aI (r 3) cI 100] := hD
  refine lv_aload_n hx hb dX1_init_39 rfl (lv_at hl 0 rfl) ?_
  refine lv_bipush (v := nI 100) hx hb dX1_init_40 (by decide) ?_
  refine k_newI hx hb hts hK hP hD hS hA 100 (by decide) 9 804 rfl rfl (Nat.le_of_ble_eq_true rfl) (Nat.le_of_ble_eq_true rfl) dX1_init_42 (fun q5 H hP hD hS => ?_)
  have hP : va_P D vwCl [(h0, .inr (1, [.ref q1, .ref q2, .ref q3, .ref q4, .null, .null, .int 0])), aI q1 cI 100, aI q2 cI 100, aI q3 cI 100, (q4, .inl (cQ, 4, .inr (.inr (.inr (.inr (fun i => if i < 4 then some (r i) else none)))))), aI (r 0) cI 100, aI (r 1) cI 100, aI (r 2) cI 100, aI (r 3) cI 100, aI q5 cI 100] H := hP
  have hD : va_D A [(h0, .inr (1, [.ref q1, .ref q2, .ref q3, .ref q4, .null, .null, .int 0])), aI q1 cI 100, aI q2 cI 100, aI q3 cI 100, (q4, .inl (cQ, 4, .inr (.inr (.inr (.inr (fun i => if i < 4 then some (r i) else none)))))), aI (r 0) cI 100, aI (r 1) cI 100, aI (r 2) cI 100, aI (r 3) cI 100, aI q5 cI 100] := hD
  refine va_putF (D := D) (ci := 1) (v := .ref q5) (ty := .array .int) (C := RX1) (T := TX1) (N := 7) hx hb hts inT1 tyX1 tyX1_ok nmX1 hown hK hP hD hS 0 rfl rfl 4 (by decide) (hts _ tw_184) (fun _ h9 => h9) rfl hin rfl (by decide +kernel) rfl rfl (Nat.le_of_ble_eq_true rfl) dX1_init_44 (fun H locs hP hD hS => ?_)
  have hP : va_P D vwCl [(h0, .inr (1, [.ref q1, .ref q2, .ref q3, .ref q4, .ref q5, .null, .int 0])), aI q1 cI 100, aI q2 cI 100, aI q3 cI 100, (q4, .inl (cQ, 4, .inr (.inr (.inr (.inr (fun i => if i < 4 then some (r i) else none)))))), aI (r 0) cI 100, aI (r 1) cI 100, aI (r 2) cI 100, aI (r 3) cI 100, aI q5 cI 100] H := hP
  have hD : va_D A [(h0, .inr (1, [.ref q1, .ref q2, .ref q3, .ref q4, .ref q5, .null, .int 0])), aI q1 cI 100, aI q2 cI 100, aI q3 cI 100, (q4, .inl (cQ, 4, .inr (.inr (.inr (.inr (fun i => if i < 4 then some (r i) else none)))))), aI (r 0) cI 100, aI (r 1) cI 100, aI (r 2) cI 100, aI (r 3) cI 100, aI q5 cI 100] := hD
  refine lv_aload_n hx hb dX1_init_47 rfl (lv_at hl 0 rfl) ?_
  refine lv_bipush (v := nI 100) hx hb dX1_init_48 (by decide) ?_
  refine k_newZ hx hb hts hK hP hD hS hA 100 (by decide) 10 904 rfl rfl (Nat.le_of_ble_eq_true rfl) (Nat.le_of_ble_eq_true rfl) dX1_init_50 (fun q6 H hP hD hS => ?_)
  have hP : va_P D vwCl [(h0, .inr (1, [.ref q1, .ref q2, .ref q3, .ref q4, .ref q5, .null, .int 0])), aI q1 cI 100, aI q2 cI 100, aI q3 cI 100, (q4, .inl (cQ, 4, .inr (.inr (.inr (.inr (fun i => if i < 4 then some (r i) else none)))))), aI (r 0) cI 100, aI (r 1) cI 100, aI (r 2) cI 100, aI (r 3) cI 100, aI q5 cI 100, aI q6 cZ 100] H := hP
  have hD : va_D A [(h0, .inr (1, [.ref q1, .ref q2, .ref q3, .ref q4, .ref q5, .null, .int 0])), aI q1 cI 100, aI q2 cI 100, aI q3 cI 100, (q4, .inl (cQ, 4, .inr (.inr (.inr (.inr (fun i => if i < 4 then some (r i) else none)))))), aI (r 0) cI 100, aI (r 1) cI 100, aI (r 2) cI 100, aI (r 3) cI 100, aI q5 cI 100, aI q6 cZ 100] := hD
  refine va_putF (D := D) (ci := 1) (v := .ref q6) (ty := .array .boolean) (C := RX1) (T := TX1) (N := 7) hx hb hts inT1 tyX1 tyX1_ok nmX1 hown hK hP hD hS 0 rfl rfl 5 (by decide) (hts _ tw_186) (fun _ h9 => h9) rfl hin rfl (by decide +kernel) rfl rfl (Nat.le_of_ble_eq_true rfl) dX1_init_52 (fun H locs hP hD hS => ?_)
  have hP : va_P D vwCl [(h0, .inr (1, [.ref q1, .ref q2, .ref q3, .ref q4, .ref q5, .ref q6, .int 0])), aI q1 cI 100, aI q2 cI 100, aI q3 cI 100, (q4, .inl (cQ, 4, .inr (.inr (.inr (.inr (fun i => if i < 4 then some (r i) else none)))))), aI (r 0) cI 100, aI (r 1) cI 100, aI (r 2) cI 100, aI (r 3) cI 100, aI q5 cI 100, aI q6 cZ 100] H := hP
  have hD : va_D A [(h0, .inr (1, [.ref q1, .ref q2, .ref q3, .ref q4, .ref q5, .ref q6, .int 0])), aI q1 cI 100, aI q2 cI 100, aI q3 cI 100, (q4, .inl (cQ, 4, .inr (.inr (.inr (.inr (fun i => if i < 4 then some (r i) else none)))))), aI (r 0) cI 100, aI (r 1) cI 100, aI (r 2) cI 100, aI (r 3) cI 100, aI q5 cI 100, aI q6 cZ 100] := hD
  refine lv_aload_n hx hb dX1_init_55 rfl (lv_at hl 0 rfl) ?_
  refine lv_iconst (v := nI 0) hx hb dX1_init_56 (by decide) ?_
  refine va_put (D := D) (ci := 1) (v := .int (nI 0)) (ty := .int) (C := RX1) (T := TX1) (N := 7) hx hb hts inT1 tyX1 tyX1_ok nmX1 hown hK hP hD hS 0 rfl rfl 6 (by decide) (hts _ tw_188) (fun _ h9 => h9) rfl (by decide +kernel) rfl rfl (Nat.le_of_ble_eq_true rfl) dX1_init_57 (fun H locs hP hD hS => ?_)
  have hP : va_P D vwCl [(h0, .inr (1, [.ref q1, .ref q2, .ref q3, .ref q4, .ref q5, .ref q6, .int (nI 0)])), aI q1 cI 100, aI q2 cI 100, aI q3 cI 100, (q4, .inl (cQ, 4, .inr (.inr (.inr (.inr (fun i => if i < 4 then some (r i) else none)))))), aI (r 0) cI 100, aI (r 1) cI 100, aI (r 2) cI 100, aI (r 3) cI 100, aI q5 cI 100, aI q6 cZ 100] H := hP
  have hD : va_D A [(h0, .inr (1, [.ref q1, .ref q2, .ref q3, .ref q4, .ref q5, .ref q6, .int (nI 0)])), aI q1 cI 100, aI q2 cI 100, aI q3 cI 100, (q4, .inl (cQ, 4, .inr (.inr (.inr (.inr (fun i => if i < 4 then some (r i) else none)))))), aI (r 0) cI 100, aI (r 1) cI 100, aI (r 2) cI 100, aI (r 3) cI 100, aI q5 cI 100, aI q6 cZ 100] := hD
  exact W.vret hx hb hr (fun t ht hW => ⟨⟨(), rfl, trivial, (fun k => match k with | 0 => q1 | 1 => q2 | 2 => q3 | 3 => q4 | 4 => q5 | 5 => q6 | k + 6 => r k), cQ, by rw [ht]; exact hP, va_K.moved hW.alike hKQ, hD⟩, hS.F ht⟩) hS.2.2 dX1_init_60

def kW2 (cI cZ cJ : ClassId) (h0 : Nat) (r : Nat → Nat) : va_W := [(h0, .inr (2, [.ref (r 0), .ref (r 1), .ref (r 2), .ref (r 3), .ref (r 4), .int (nI 0)])), aI (r 0) cI 10, aF (r 1) cI 10 (kF (-1) 10), aI (r 2) cI 20, aI (r 3) cI 20, aI (r 4) cI 20]
set_option maxHeartbeats 4000000 in
set_option maxRecDepth 100000 in
theorem kl_X2 {p : Program} {l : Launch} {e : Env} {R : Room} {s : State} {m : MethodId} {args : Array Value} {below : List Frame} {meth : Method} {c : Code} {cells slots : Nat} {Q : State → Prop} {D : va_G} {cI cZ cJ : ClassId} {A : Nat → Prop} (hx : p.tables.exec = Jvm.exec) (hb : c.code = cX2_init) (hts : ∀ w ∈ TT, w.before args s = true) (hown : s.vm.findClass RX2 = some m.cls) (hK : va_K D vwCl (kTy cI cZ cJ) s) {h0 q1 q2 : Nat} (hend : ∀ (H : Heap) (locs : List Loc) (ls : Array Slot), va_P D vwCl [(h0, .inr (2, [.ref q1, .ref q2, .null, .null, .null, .int 0])), aI q1 cI 10, aF q2 cI 10 (kF (-1) 10)] H → va_D A [(h0, .inr (2, [.ref q1, .ref q2, .null, .null, .null, .int 0])), aI q1 cI 10, aF q2 cI 10 (kF (-1) 10)] → va_S A s.heap H locs → lv_has ls 2 [(1, .int (nI 10)), (0, .ref h0)] → W p l e R s m args below meth c H locs cells slots Q (F0 m 41 ls [])) : ∀ (n k : Nat) (H : Heap) (locs : List Loc) (ls : Array Slot), k ≤ 10 → 10 < k + n → va_P D vwCl [(h0, .inr (2, [.ref q1, .ref q2, .null, .null, .null, .int 0])), aI q1 cI 10, aF q2 cI 10 (kF (-1) k)] H → va_D A [(h0, .inr (2, [.ref q1, .ref q2, .null, .null, .null, .int 0])), aI q1 cI 10, aF q2 cI 10 (kF (-1) k)] → va_S A s.heap H locs → lv_has ls 2 [(1, .int (nI k)), (0, .ref h0)] → W p l e R s m args below meth c H locs cells slots Q (F0 m 22 ls []) := by
  intro n
  induction n with
  | zero =>
    intro k H locs ls h1 h2
    exact absurd h2 (by omega)
  | succ n ih =>
    intro k H locs ls h1 h2 hP hD hS hl
    refine lv_iload_n hx hb dX2_init_22 rfl (lv_at hl 0 rfl) ?_
    refine lv_bipush (v := nI 10) hx hb dX2_init_23 (by decide) ?_
    refine lv_icmp_ge (tgt := 41) hx hb dX2_init_25 (by decide) (fun c1 => ?_) (fun c1 => ?_)
    · have h3 := (nI_leI (by omega) (by omega)).mp c1
      have h4 : k = 10 := by omega
      subst h4
      exact hend H locs ls hP hD hS hl
    · have hlt : k < 10 := Nat.lt_of_not_le (fun q => c1 ((nI_leI (by omega) (by omega)).mpr q))
      refine lv_aload_n hx hb dX2_init_28 rfl (lv_at hl 1 rfl) ?_
      refine va_get (D := D) (ci := 2) (v := .ref q2) (C := RX2) (T := TX2) (N := 6) hx hb hts inT2 hown hK hP 0 rfl rfl 1 (by decide) (hts _ tw_118) (fun _ h9 => h9) rfl dX2_init_29 ?_
      refine lv_iload_n hx hb dX2_init_32 rfl (lv_at hl 0 rfl) ?_
      refine lv_iconst (v := (-1)) hx hb dX2_init_33 (by decide) ?_
      refine va_iast hx hb hK hP hD hS 2 0 rfl rfl (vp_in_nI hlt (by omega)) dX2_init_34 (fun H locs hP hD hS => ?_)
      rw [nI_clamp (by omega), kF_s] at hP hD
      have hP : va_P D vwCl [(h0, .inr (2, [.ref q1, .ref q2, .null, .null, .null, .int 0])), aI q1 cI 10, aF q2 cI 10 (kF (-1) (k + 1))] H := hP
      have hD : va_D A [(h0, .inr (2, [.ref q1, .ref q2, .null, .null, .null, .int 0])), aI q1 cI 10, aF q2 cI 10 (kF (-1) (k + 1))] := hD
      refine lv_iinc (v := nI (k + 1)) (lv' := [(1, .int (nI (k + 1))), (0, .ref h0)]) hx hb dX2_init_35 hl (k := 0) rfl (nI_i1 _) (by decide) rfl (fun ls hl => ?_)
      refine lv_goto (tgt := 22) hx hb dX2_init_38 (by decide) ?_
      exact ih (k + 1) _ _ _ (by omega) (by omega) hP hD hS hl

set_option maxHeartbeats 4000000 in
set_option maxRecDepth 100000 in
theorem k_X2 (l : Launch) (D : va_G) (cI cZ cJ : ClassId) (h0 sz : Nat) : Met l yX2_init (Cond.code yX2_init cX2_init 2 none :: TT) { frames := 1, cells := 5, slots := 80, locals := 24 } (kPc D cI cZ cJ sz h0 2 [.null, .null, .null, .null, .null, .int 0]) (kQ0 D (va_A [(h0, .inr (2, [.null, .null, .null, .null, .null, .int 0]))] sz) (kW2 cI cZ cJ h0)) 5 80 (va_A [(h0, .inr (2, [.null, .null, .null, .null, .null, .int 0]))] sz) := by
  refine Met.ofW (cc := cX2_init) (maxL := 2) (ret := none) (by decide) rfl ?_
  intro p e s m args below meth c s₁ B hml hv
  obtain ⟨rfl, hsz, hP, hK, hO, hD0⟩ := hv
  have hx := B.exec
  have hb := B.bytes
  have hr := B.returns
  have hts : ∀ w ∈ TT, w.before _ s = true := fun w hw => atoms_spec (ws := Cond.code yX2_init cX2_init 2 none :: TT) B.pre w (List.mem_cons_of_mem _ hw)
  have hown : s.vm.findClass RX2 = some m.cls := findClass_of_methodNamed B.named
  have hlocks := B.notSynchronized
  have hin : meth.name = "<init>" := (name_of_methodNamed B.named B.method).1
  subst hsz
  have hD := hD0.self (sz := s.heap.size)
  generalize hAe : va_A [(h0, .inr (2, [.null, .null, .null, .null, .null, .int 0]))] s.heap.size = A at hD ⊢
  have hA : ∀ q : Nat, s.heap.size ≤ q → A q := fun q h => by rw [← hAe]; exact Or.inr h
  have hS : va_S A s.heap s.heap [] := va_S.rf
  have hP : va_P D vwCl [(h0, .inr (2, [.null, .null, .null, .null, .null, .int 0]))] s.heap := hP
  have hl := lv_entry ([.ref h0]) (n := 2) (Nat.le_of_ble_eq_true rfl)
  rw [lg_entry_eq]
  generalize (lg_sl ([.ref h0]) ++ List.replicate (2 - (lg_sl ([.ref h0])).length) Slot.unset).toArray = ls at hl ⊢
  have hl : lv_has ls 2 [(0, .ref h0)] := hl
  refine lv_aload_n hx hb dX2_init_0 rfl (lv_at hl 0 rfl) ?_
  refine W.objInit hx hb hown (hts _ tw_115) (hts _ tw_52) (hts _ tw_53) rfl (by rw [hml]; exact hl.1) rfl dX2_init_1 (Nat.le_of_ble_eq_true rfl) (Nat.le_of_ble_eq_true rfl) ?_
  refine W.eq (g2 := F0 m 4 ls []) rfl ?_
  refine lv_aload_n hx hb dX2_init_4 rfl (lv_at hl 0 rfl) ?_
  refine lv_bipush (v := nI 10) hx hb dX2_init_5 (by decide) ?_
  refine k_newI hx hb hts hK hP hD hS hA 10 (by decide) 1 10 rfl rfl (Nat.le_of_ble_eq_true rfl) (Nat.le_of_ble_eq_true rfl) dX2_init_7 (fun q1 H hP hD hS => ?_)
  have hP : va_P D vwCl [(h0, .inr (2, [.null, .null, .null, .null, .null, .int 0])), aI q1 cI 10] H := hP
  have hD : va_D A [(h0, .inr (2, [.null, .null, .null, .null, .null, .int 0])), aI q1 cI 10] := hD
  refine va_putF (D := D) (ci := 2) (v := .ref q1) (ty := .array .int) (C := RX2) (T := TX2) (N := 6) hx hb hts inT2 tyX2 tyX2_ok nmX2 hown hK hP hD hS 0 rfl rfl 0 (by decide) (hts _ tw_116) (fun _ h9 => h9) rfl hin rfl (by decide +kernel) rfl rfl (Nat.le_of_ble_eq_true rfl) dX2_init_9 (fun H locs hP hD hS => ?_)
  have hP : va_P D vwCl [(h0, .inr (2, [.ref q1, .null, .null, .null, .null, .int 0])), aI q1 cI 10] H := hP
  have hD : va_D A [(h0, .inr (2, [.ref q1, .null, .null, .null, .null, .int 0])), aI q1 cI 10] := hD
  refine lv_aload_n hx hb dX2_init_12 rfl (lv_at hl 0 rfl) ?_
  refine lv_bipush (v := nI 10) hx hb dX2_init_13 (by decide) ?_
  refine k_newI hx hb hts hK hP hD hS hA 10 (by decide) 2 20 rfl rfl (Nat.le_of_ble_eq_true rfl) (Nat.le_of_ble_eq_true rfl) dX2_init_15 (fun q2 H hP hD hS => ?_)
  have hP : va_P D vwCl [(h0, .inr (2, [.ref q1, .null, .null, .null, .null, .int 0])), aI q1 cI 10, aI q2 cI 10] H := hP
  have hD : va_D A [(h0, .inr (2, [.ref q1, .null, .null, .null, .null, .int 0])), aI q1 cI 10, aI q2 cI 10] := hD
  refine va_putF (D := D) (ci := 2) (v := .ref q2) (ty := .array .int) (C := RX2) (T := TX2) (N := 6) hx hb hts inT2 tyX2 tyX2_ok nmX2 hown hK hP hD hS 0 rfl rfl 1 (by decide) (hts _ tw_118) (fun _ h9 => h9) rfl hin rfl (by decide +kernel) rfl rfl (Nat.le_of_ble_eq_true rfl) dX2_init_17 (fun H locs hP hD hS => ?_)
  have hP : va_P D vwCl [(h0, .inr (2, [.ref q1, .ref q2, .null, .null, .null, .int 0])), aI q1 cI 10, aI q2 cI 10] H := hP
  have hD : va_D A [(h0, .inr (2, [.ref q1, .ref q2, .null, .null, .null, .int 0])), aI q1 cI 10, aI q2 cI 10] := hD
  refine lv_iconst (v := nI 0) hx hb dX2_init_20 (by decide) ?_
  refine lv_istore_n (lv' := [(1, .int (nI 0)), (0, .ref h0)]) hx hb dX2_init_21 rfl hl (by decide) rfl (fun ls hl => ?_)
  refine kl_X2 hx hb hts hown hK (fun H locs ls hP hD hS hl => ?_) 11 0 H _ ls (by omega) (by omega) (by rw [kF_0]; exact hP) (by rw [kF_0]; exact hD) hS hl
  have hP : va_P D vwCl [(h0, .inr (2, [.ref q1, .ref q2, .null, .null, .null, .int 0])), aI q1 cI 10, aF q2 cI 10 (kF (-1) 10)] H := hP
  have hD : va_D A [(h0, .inr (2, [.ref q1, .ref q2, .null, .null, .null, .int 0])), aI q1 cI 10, aF q2 cI 10 (kF (-1) 10)] := hD
  refine lv_aload_n hx hb dX2_init_41 rfl (lv_at hl 1 rfl) ?_
  refine lv_bipush (v := nI 20) hx hb dX2_init_42 (by decide) ?_
  refine k_newI hx hb hts hK hP hD hS hA 20 (by decide) 3 40 rfl rfl (Nat.le_of_ble_eq_true rfl) (Nat.le_of_ble_eq_true rfl) dX2_init_44 (fun q3 H hP hD hS => ?_)
  have hP : va_P D vwCl [(h0, .inr (2, [.ref q1, .ref q2, .null, .null, .null, .int 0])), aI q1 cI 10, aF q2 cI 10 (kF (-1) 10), aI q3 cI 20] H := hP
  have hD : va_D A [(h0, .inr (2, [.ref q1, .ref q2, .null, .null, .null, .int 0])), aI q1 cI 10, aF q2 cI 10 (kF (-1) 10), aI q3 cI 20] := hD
  refine va_putF (D := D) (ci := 2) (v := .ref q3) (ty := .array .int) (C := RX2) (T := TX2) (N := 6) hx hb hts inT2 tyX2 tyX2_ok nmX2 hown hK hP hD hS 0 rfl rfl 2 (by decide) (hts _ tw_120) (fun _ h9 => h9) rfl hin rfl (by decide +kernel) rfl rfl (Nat.le_of_ble_eq_true rfl) dX2_init_46 (fun H locs hP hD hS => ?_)
  have hP : va_P D vwCl [(h0, .inr (2, [.ref q1, .ref q2, .ref q3, .null, .null, .int 0])), aI q1 cI 10, aF q2 cI 10 (kF (-1) 10), aI q3 cI 20] H := hP
  have hD : va_D A [(h0, .inr (2, [.ref q1, .ref q2, .ref q3, .null, .null, .int 0])), aI q1 cI 10, aF q2 cI 10 (kF (-1) 10), aI q3 cI 20] := hD
  refine lv_aload_n hx hb dX2_init_49 rfl (lv_at hl 1 rfl) ?_
  refine lv_bipush (v := nI 20) hx hb dX2_init_50 (by decide) ?_
  refine k_newI hx hb hts hK hP hD hS hA 20 (by decide) 4 60 rfl rfl (Nat.le_of_ble_eq_true rfl) (Nat.le_of_ble_eq_true rfl) dX2_init_52 (fun q4 H hP hD hS => ?_)
  have hP : va_P D vwCl [(h0, .inr (2, [.ref q1, .ref q2, .ref q3, .null, .null, .int 0])), aI q1 cI 10, aF q2 cI 10 (kF (-1) 10), aI q3 cI 20, aI q4 cI 20] H := hP
  have hD : va_D A [(h0, .inr (2, [.ref q1, .ref q2, .ref q3, .null, .null, .int 0])), aI q1 cI 10, aF q2 cI 10 (kF (-1) 10), aI q3 cI 20, aI q4 cI 20] := hD
  refine va_putF (D := D) (ci := 2) (v := .ref q4) (ty := .array .int) (C := RX2) (T := TX2) (N := 6) hx hb hts inT2 tyX2 tyX2_ok nmX2 hown hK hP hD hS 0 rfl rfl 3 (by decide) (hts _ tw_121) (fun _ h9 => h9) rfl hin rfl (by decide +kernel) rfl rfl (Nat.le_of_ble_eq_true rfl) dX2_init_54 (fun H locs hP hD hS => ?_)
  have hP : va_P D vwCl [(h0, .inr (2, [.ref q1, .ref q2, .ref q3, .ref q4, .null, .int 0])), aI q1 cI 10, aF q2 cI 10 (kF (-1) 10), aI q3 cI 20, aI q4 cI 20] H := hP
  have hD : va_D A [(h0, .inr (2, [.ref q1, .ref q2, .ref q3, .ref q4, .null, .int 0])), aI q1 cI 10, aF q2 cI 10 (kF (-1) 10), aI q3 cI 20, aI q4 cI 20] := hD
  refine lv_aload_n hx hb dX2_init_57 rfl (lv_at hl 1 rfl) ?_
  refine lv_bipush (v := nI 20) hx hb dX2_init_58 (by decide) ?_
  refine k_newI hx hb hts hK hP hD hS hA 20 (by decide) 5 80 rfl rfl (Nat.le_of_ble_eq_true rfl) (Nat.le_of_ble_eq_true rfl) dX2_init_60 (fun q5 H hP hD hS => ?_)
  have hP : va_P D vwCl [(h0, .inr (2, [.ref q1, .ref q2, .ref q3, .ref q4, .null, .int 0])), aI q1 cI 10, aF q2 cI 10 (kF (-1) 10), aI q3 cI 20, aI q4 cI 20, aI q5 cI 20] H := hP
  have hD : va_D A [(h0, .inr (2, [.ref q1, .ref q2, .ref q3, .ref q4, .null, .int 0])), aI q1 cI 10, aF q2 cI 10 (kF (-1) 10), aI q3 cI 20, aI q4 cI 20, aI q5 cI 20] := hD
  refine va_putF (D := D) (ci := 2) (v := .ref q5) (ty := .array .int) (C := RX2) (T := TX2) (N := 6) hx hb hts inT2 tyX2 tyX2_ok nmX2 hown hK hP hD hS 0 rfl rfl 4 (by decide) (hts _ tw_122) (fun _ h9 => h9) rfl hin rfl (by decide +kernel) rfl rfl (Nat.le_of_ble_eq_true rfl) dX2_init_62 (fun H locs hP hD hS => ?_)
  have hP : va_P D vwCl [(h0, .inr (2, [.ref q1, .ref q2, .ref q3, .ref q4, .ref q5, .int 0])), aI q1 cI 10, aF q2 cI 10 (kF (-1) 10), aI q3 cI 20, aI q4 cI 20, aI q5 cI 20] H := hP
  have hD : va_D A [(h0, .inr (2, [.ref q1, .ref q2, .ref q3, .ref q4, .ref q5, .int 0])), aI q1 cI 10, aF q2 cI 10 (kF (-1) 10), aI q3 cI 20, aI q4 cI 20, aI q5 cI 20] := hD
  refine lv_aload_n hx hb dX2_init_65 rfl (lv_at hl 1 rfl) ?_
  refine lv_iconst (v := nI 0) hx hb dX2_init_66 (by decide) ?_
  refine va_put (D := D) (ci := 2) (v := .int (nI 0)) (ty := .int) (C := RX2) (T := TX2) (N := 6) hx hb hts inT2 tyX2 tyX2_ok nmX2 hown hK hP hD hS 0 rfl rfl 5 (by decide) (hts _ tw_123) (fun _ h9 => h9) rfl (by decide +kernel) rfl rfl (Nat.le_of_ble_eq_true rfl) dX2_init_67 (fun H locs hP hD hS => ?_)
  have hP : va_P D vwCl [(h0, .inr (2, [.ref q1, .ref q2, .ref q3, .ref q4, .ref q5, .int (nI 0)])), aI q1 cI 10, aF q2 cI 10 (kF (-1) 10), aI q3 cI 20, aI q4 cI 20, aI q5 cI 20] H := hP
  have hD : va_D A [(h0, .inr (2, [.ref q1, .ref q2, .ref q3, .ref q4, .ref q5, .int (nI 0)])), aI q1 cI 10, aF q2 cI 10 (kF (-1) 10), aI q3 cI 20, aI q4 cI 20, aI q5 cI 20] := hD
  exact W.vret hx hb hr (fun t ht hW => ⟨⟨(), rfl, trivial, (fun k => [q1, q2, q3, q4, q5].getD k 0), by rw [ht]; exact hP, hD⟩, hS.F ht⟩) hS.2.2 dX2_init_70

def kW5 (cI cZ cJ : ClassId) (h0 : Nat) (r : Nat → Nat) : va_W := [(h0, .inr (5, [.ref (r 0), .ref (r 1), .int (nI 5000)])), aF (r 0) cI 3 (kF (nI 10) 3), aF (r 1) cI 3 (kF (nI 150) 3)]
set_option maxHeartbeats 4000000 in
set_option maxRecDepth 100000 in
theorem kl_X5 {p : Program} {l : Launch} {e : Env} {R : Room} {s : State} {m : MethodId} {args : Array Value} {below : List Frame} {meth : Method} {c : Code} {cells slots : Nat} {Q : State → Prop} {D : va_G} {cI cZ cJ : ClassId} {A : Nat → Prop} (hx : p.tables.exec = Jvm.exec) (hb : c.code = cX5_init) (hts : ∀ w ∈ TT, w.before args s = true) (hown : s.vm.findClass RX5 = some m.cls) (hK : va_K D vwCl (kTy cI cZ cJ) s) {h0 q1 q2 : Nat} (hend : ∀ (H : Heap) (locs : List Loc) (ls : Array Slot), va_P D vwCl [(h0, .inr (5, [.ref q1, .ref q2, .int 0])), aF q1 cI 3 (kF (nI 10) 3), aF q2 cI 3 (kF (nI 150) 3)] H → va_D A [(h0, .inr (5, [.ref q1, .ref q2, .int 0])), aF q1 cI 3 (kF (nI 10) 3), aF q2 cI 3 (kF (nI 150) 3)] → va_S A s.heap H locs → lv_has ls 2 [(1, .int (nI 3)), (0, .ref h0)] → W p l e R s m args below meth c H locs cells slots Q (F0 m 48 ls [])) : ∀ (n k : Nat) (H : Heap) (locs : List Loc) (ls : Array Slot), k ≤ 3 → 3 < k + n → va_P D vwCl [(h0, .inr (5, [.ref q1, .ref q2, .int 0])), aF q1 cI 3 (kF (nI 10) k), aF q2 cI 3 (kF (nI 150) k)] H → va_D A [(h0, .inr (5, [.ref q1, .ref q2, .int 0])), aF q1 cI 3 (kF (nI 10) k), aF q2 cI 3 (kF (nI 150) k)] → va_S A s.heap H locs → lv_has ls 2 [(1, .int (nI k)), (0, .ref h0)] → W p l e R s m args below meth c H locs cells slots Q (F0 m 20 ls []) := by
  intro n
  induction n with
  | zero =>
    intro k H locs ls h1 h2
    exact absurd h2 (by omega)
  | succ n ih =>
    intro k H locs ls h1 h2 hP hD hS hl
    refine lv_iload_n hx hb dX5_init_20 rfl (lv_at hl 0 rfl) ?_
    refine lv_iconst (v := nI 3) hx hb dX5_init_21 (by decide) ?_
    refine lv_icmp_ge (tgt := 48) hx hb dX5_init_22 (by decide) (fun c1 => ?_) (fun c1 => ?_)
    · have h3 := (nI_leI (by omega) (by omega)).mp c1
      have h4 : k = 3 := by omega
      subst h4
      exact hend H locs ls hP hD hS hl
    · have hlt : k < 3 := Nat.lt_of_not_le (fun q => c1 ((nI_leI (by omega) (by omega)).mpr q))
      refine lv_aload_n hx hb dX5_init_25 rfl (lv_at hl 1 rfl) ?_
      refine va_get (D := D) (ci := 5) (v := .ref q1) (C := RX5) (T := TX5) (N := 3) hx hb hts inT5 hown hK hP 0 rfl rfl 0 (by decide) (hts _ tw_97) (fun _ h9 => h9) rfl dX5_init_26 ?_
      refine lv_iload_n hx hb dX5_init_29 rfl (lv_at hl 0 rfl) ?_
      refine lv_bipush (v := (nI 10)) hx hb dX5_init_30 (by decide) ?_
      refine va_iast hx hb hK hP hD hS 1 0 rfl rfl (vp_in_nI hlt (by omega)) dX5_init_32 (fun H locs hP hD hS => ?_)
      rw [nI_clamp (by omega), kF_s] at hP hD
      have hP : va_P D vwCl [(h0, .inr (5, [.ref q1, .ref q2, .int 0])), aF q1 cI 3 (kF (nI 10) (k + 1)), aF q2 cI 3 (kF (nI 150) k)] H := hP
      have hD : va_D A [(h0, .inr (5, [.ref q1, .ref q2, .int 0])), aF q1 cI 3 (kF (nI 10) (k + 1)), aF q2 cI 3 (kF (nI 150) k)] := hD
      refine lv_aload_n hx hb dX5_init_33 rfl (lv_at hl 1 rfl) ?_
      refine va_get (D := D) (ci := 5) (v := .ref q2) (C := RX5) (T := TX5) (N := 3) hx hb hts inT5 hown hK hP 0 rfl rfl 1 (by decide) (hts _ tw_99) (fun _ h9 => h9) rfl dX5_init_34 ?_
      refine lv_iload_n hx hb dX5_init_37 rfl (lv_at hl 0 rfl) ?_
      refine lv_sipush (v := (nI 150)) hx hb dX5_init_38 (by decide) ?_
      refine va_iast hx hb hK hP hD hS 2 0 rfl rfl (vp_in_nI hlt (by omega)) dX5_init_41 (fun H locs hP hD hS => ?_)
      rw [nI_clamp (by omega), kF_s] at hP hD
      have hP : va_P D vwCl [(h0, .inr (5, [.ref q1, .ref q2, .int 0])), aF q1 cI 3 (kF (nI 10) (k + 1)), aF q2 cI 3 (kF (nI 150) (k + 1))] H := hP
      have hD : va_D A [(h0, .inr (5, [.ref q1, .ref q2, .int 0])), aF q1 cI 3 (kF (nI 10) (k + 1)), aF q2 cI 3 (kF (nI 150) (k + 1))] := hD
      refine lv_iinc (v := nI (k + 1)) (lv' := [(1, .int (nI (k + 1))), (0, .ref h0)]) hx hb dX5_init_42 hl (k := 0) rfl (nI_i1 _) (by decide) rfl (fun ls hl => ?_)
      refine lv_goto (tgt := 20) hx hb dX5_init_45 (by decide) ?_
      exact ih (k + 1) _ _ _ (by omega) (by omega) hP hD hS hl

set_option maxHeartbeats 4000000 in
set_option maxRecDepth 100000 in
theorem k_X5 (l : Launch) (D : va_G) (cI cZ cJ : ClassId) (h0 sz : Nat) : Met l yX5_init (Cond.code yX5_init cX5_init 2 none :: TT) { frames := 1, cells := 2, slots := 6, locals := 24 } (kPc D cI cZ cJ sz h0 5 [.null, .null, .int 0]) (kQ0 D (va_A [(h0, .inr (5, [.null, .null, .int 0]))] sz) (kW5 cI cZ cJ h0)) 2 6 (va_A [(h0, .inr (5, [.null, .null, .int 0]))] sz) := by
  refine Met.ofW (cc := cX5_init) (maxL := 2) (ret := none) (by decide) rfl ?_
  intro p e s m args below meth c s₁ B hml hv
  obtain ⟨rfl, hsz, hP, hK, hO, hD0⟩ := hv
  have hx := B.exec
  have hb := B.bytes
  have hr := B.returns
  have hts : ∀ w ∈ TT, w.before _ s = true := fun w hw => atoms_spec (ws := Cond.code yX5_init cX5_init 2 none :: TT) B.pre w (List.mem_cons_of_mem _ hw)
  have hown : s.vm.findClass RX5 = some m.cls := findClass_of_methodNamed B.named
  have hlocks := B.notSynchronized
  have hin : meth.name = "<init>" := (name_of_methodNamed B.named B.method).1
  subst hsz
  have hD := hD0.self (sz := s.heap.size)
  generalize hAe : va_A [(h0, .inr (5, [.null, .null, .int 0]))] s.heap.size = A at hD ⊢
  have hA : ∀ q : Nat, s.heap.size ≤ q → A q := fun q h => by rw [← hAe]; exact Or.inr h
  have hS : va_S A s.heap s.heap [] := va_S.rf
  have hP : va_P D vwCl [(h0, .inr (5, [.null, .null, .int 0]))] s.heap := hP
  have hl := lv_entry ([.ref h0]) (n := 2) (Nat.le_of_ble_eq_true rfl)
  rw [lg_entry_eq]
  generalize (lg_sl ([.ref h0]) ++ List.replicate (2 - (lg_sl ([.ref h0])).length) Slot.unset).toArray = ls at hl ⊢
  have hl : lv_has ls 2 [(0, .ref h0)] := hl
  refine lv_aload_n hx hb dX5_init_0 rfl (lv_at hl 0 rfl) ?_
  refine W.objInit hx hb hown (hts _ tw_96) (hts _ tw_52) (hts _ tw_53) rfl (by rw [hml]; exact hl.1) rfl dX5_init_1 (Nat.le_of_ble_eq_true rfl) (Nat.le_of_ble_eq_true rfl) ?_
  refine W.eq (g2 := F0 m 4 ls []) rfl ?_
  refine lv_aload_n hx hb dX5_init_4 rfl (lv_at hl 0 rfl) ?_
  refine lv_iconst (v := nI 3) hx hb dX5_init_5 (by decide) ?_
  refine k_newI hx hb hts hK hP hD hS hA 3 (by decide) 1 3 rfl rfl (Nat.le_of_ble_eq_true rfl) (Nat.le_of_ble_eq_true rfl) dX5_init_6 (fun q1 H hP hD hS => ?_)
  have hP : va_P D vwCl [(h0, .inr (5, [.null, .null, .int 0])), aI q1 cI 3] H := hP
  have hD : va_D A [(h0, .inr (5, [.null, .null, .int 0])), aI q1 cI 3] := hD
  refine va_putF (D := D) (ci := 5) (v := .ref q1) (ty := .array .int) (C := RX5) (T := TX5) (N := 3) hx hb hts inT5 tyX5 tyX5_ok nmX5 hown hK hP hD hS 0 rfl rfl 0 (by decide) (hts _ tw_97) (fun _ h9 => h9) rfl hin rfl (by decide +kernel) rfl rfl (Nat.le_of_ble_eq_true rfl) dX5_init_8 (fun H locs hP hD hS => ?_)
  have hP : va_P D vwCl [(h0, .inr (5, [.ref q1, .null, .int 0])), aI q1 cI 3] H := hP
  have hD : va_D A [(h0, .inr (5, [.ref q1, .null, .int 0])), aI q1 cI 3] := hD
  refine lv_aload_n hx hb dX5_init_11 rfl (lv_at hl 0 rfl) ?_
  refine lv_iconst (v := nI 3) hx hb dX5_init_12 (by decide) ?_
  refine k_newI hx hb hts hK hP hD hS hA 3 (by decide) 2 6 rfl rfl (Nat.le_of_ble_eq_true rfl) (Nat.le_of_ble_eq_true rfl) dX5_init_13 (fun q2 H hP hD hS => ?_)
  have hP : va_P D vwCl [(h0, .inr (5, [.ref q1, .null, .int 0])), aI q1 cI 3, aI q2 cI 3] H := hP
  have hD : va_D A [(h0, .inr (5, [.ref q1, .null, .int 0])), aI q1 cI 3, aI q2 cI 3] := hD
  refine va_putF (D := D) (ci := 5) (v := .ref q2) (ty := .array .int) (C := RX5) (T := TX5) (N := 3) hx hb hts inT5 tyX5 tyX5_ok nmX5 hown hK hP hD hS 0 rfl rfl 1 (by decide) (hts _ tw_99) (fun _ h9 => h9) rfl hin rfl (by decide +kernel) rfl rfl (Nat.le_of_ble_eq_true rfl) dX5_init_15 (fun H locs hP hD hS => ?_)
  have hP : va_P D vwCl [(h0, .inr (5, [.ref q1, .ref q2, .int 0])), aI q1 cI 3, aI q2 cI 3] H := hP
  have hD : va_D A [(h0, .inr (5, [.ref q1, .ref q2, .int 0])), aI q1 cI 3, aI q2 cI 3] := hD
  refine lv_iconst (v := nI 0) hx hb dX5_init_18 (by decide) ?_
  refine lv_istore_n (lv' := [(1, .int (nI 0)), (0, .ref h0)]) hx hb dX5_init_19 rfl hl (by decide) rfl (fun ls hl => ?_)
  refine kl_X5 hx hb hts hown hK (fun H locs ls hP hD hS hl => ?_) 4 0 H _ ls (by omega) (by omega) (by rw [kF_0, kF_0]; exact hP) (by rw [kF_0, kF_0]; exact hD) hS hl
  have hP : va_P D vwCl [(h0, .inr (5, [.ref q1, .ref q2, .int 0])), aF q1 cI 3 (kF (nI 10) 3), aF q2 cI 3 (kF (nI 150) 3)] H := hP
  have hD : va_D A [(h0, .inr (5, [.ref q1, .ref q2, .int 0])), aF q1 cI 3 (kF (nI 10) 3), aF q2 cI 3 (kF (nI 150) 3)] := hD
  refine lv_aload_n hx hb dX5_init_48 rfl (lv_at hl 1 rfl) ?_
  refine lv_sipush (v := nI 5000) hx hb dX5_init_49 (by decide) ?_
  refine va_put (D := D) (ci := 5) (v := .int (nI 5000)) (ty := .int) (C := RX5) (T := TX5) (N := 3) hx hb hts inT5 tyX5 tyX5_ok nmX5 hown hK hP hD hS 0 rfl rfl 2 (by decide) (hts _ tw_101) (fun _ h9 => h9) rfl (by decide +kernel) rfl rfl (Nat.le_of_ble_eq_true rfl) dX5_init_52 (fun H locs hP hD hS => ?_)
  have hP : va_P D vwCl [(h0, .inr (5, [.ref q1, .ref q2, .int (nI 5000)])), aF q1 cI 3 (kF (nI 10) 3), aF q2 cI 3 (kF (nI 150) 3)] H := hP
  have hD : va_D A [(h0, .inr (5, [.ref q1, .ref q2, .int (nI 5000)])), aF q1 cI 3 (kF (nI 10) 3), aF q2 cI 3 (kF (nI 150) 3)] := hD
  exact W.vret hx hb hr (fun t ht hW => ⟨⟨(), rfl, trivial, (fun k => [q1, q2].getD k 0), by rw [ht]; exact hP, hD⟩, hS.F ht⟩) hS.2.2 dX5_init_55
