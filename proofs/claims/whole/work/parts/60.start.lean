/-! what the Statement gives of the start -/
theorem k_str {s : State} {args : Array Value} {k : Nat} {tx : String} (h : (Cond.stringRef RX6 k tx).before args s = true) : ∃ a, vk_R RX6 k tx a s := by
  cases hcur : s.vm.findClass RX6 with
  | none => simp [Cond.before, Cond.holds, Cond.value, hcur] at h
  | some cur =>
    obtain ⟨k', cf, i, a, -, -, -, -, -, hev⟩ := Cond.stringRef_spec hcur h
    exact ⟨a, vk_R.of h hev⟩
set_option maxHeartbeats 4000000 in
set_option maxRecDepth 100000 in
theorem kwX {G : wG} {s : State} {b : Nat} (hG : G.2.2.1 = s.heap.size) (hts : ∀ w ∈ lw_tbl, w.before #[Value.ref b] s = true) (hgv : (Jvm.Cond.and given_1 narrow_1).before #[Value.ref b] s = true) : wX G s s.heap := by
  have hs := flat_of_before _ hgv
  have hA : ∀ a : Nat, a < s.heap.size → ¬ (fun q => G.2.2.1 ≤ q) a := fun a ha q => by
    have q : G.2.2.1 ≤ a := q
    omega

  refine ⟨vx_Zqof (hts _ (List.mem_of_getElem? (i := 401) rfl)) (hts _ (List.mem_of_getElem? (i := 39) rfl)) (hs _ (by decide +kernel)) hA, vx_Zqof (hts _ (List.mem_of_getElem? (i := 403) rfl)) (hts _ (List.mem_of_getElem? (i := 39) rfl)) (hs _ (by decide +kernel)) hA, ?_, ?_, ?_, ?_, ?_⟩
  · exact (List.forall_mem_cons.mpr ⟨k_str (hts _ (List.mem_of_getElem? (i := 415) rfl)), (List.forall_mem_cons.mpr ⟨k_str (hts _ (List.mem_of_getElem? (i := 468) rfl)), (List.forall_mem_cons.mpr ⟨k_str (hts _ (List.mem_of_getElem? (i := 487) rfl)), (List.forall_mem_cons.mpr ⟨k_str (hts _ (List.mem_of_getElem? (i := 494) rfl)), (List.forall_mem_cons.mpr ⟨k_str (hts _ (List.mem_of_getElem? (i := 495) rfl)), (List.forall_mem_cons.mpr ⟨k_str (hts _ (List.mem_of_getElem? (i := 530) rfl)), (List.forall_mem_cons.mpr ⟨k_str (hts _ (List.mem_of_getElem? (i := 541) rfl)), (List.forall_mem_cons.mpr ⟨k_str (hts _ (List.mem_of_getElem? (i := 549) rfl)), (List.forall_mem_cons.mpr ⟨k_str (hts _ (List.mem_of_getElem? (i := 561) rfl)), (List.forall_mem_cons.mpr ⟨k_str (hts _ (List.mem_of_getElem? (i := 577) rfl)), (List.forall_mem_cons.mpr ⟨k_str (hts _ (List.mem_of_getElem? (i := 578) rfl)), (List.forall_mem_cons.mpr ⟨k_str (hts _ (List.mem_of_getElem? (i := 586) rfl)), (List.forall_mem_cons.mpr ⟨k_str (hts _ (List.mem_of_getElem? (i := 601) rfl)), (List.forall_mem_cons.mpr ⟨k_str (hts _ (List.mem_of_getElem? (i := 621) rfl)), (List.forall_mem_cons.mpr ⟨k_str (hts _ (List.mem_of_getElem? (i := 675) rfl)), (fun _ h9 => absurd h9 List.not_mem_nil)⟩)⟩)⟩)⟩)⟩)⟩)⟩)⟩)⟩)⟩)⟩)⟩)⟩)⟩)⟩)
  · exact (List.forall_mem_cons.mpr ⟨va_Nw.of rfl (hts _ (List.mem_of_getElem? (i := 66) rfl)), (List.forall_mem_cons.mpr ⟨va_Nw.of rfl (hts _ (List.mem_of_getElem? (i := 68) rfl)), (List.forall_mem_cons.mpr ⟨va_Nw.of rfl (hts _ (List.mem_of_getElem? (i := 70) rfl)), (List.forall_mem_cons.mpr ⟨va_Nw.of rfl (hts _ (List.mem_of_getElem? (i := 72) rfl)), (List.forall_mem_cons.mpr ⟨va_Nw.of rfl (hts _ (List.mem_of_getElem? (i := 74) rfl)), (List.forall_mem_cons.mpr ⟨va_Nw.of rfl (hts _ (List.mem_of_getElem? (i := 98) rfl)), (List.forall_mem_cons.mpr ⟨va_Nw.of rfl (hts _ (List.mem_of_getElem? (i := 100) rfl)), (List.forall_mem_cons.mpr ⟨va_Nw.of rfl (hts _ (List.mem_of_getElem? (i := 102) rfl)), (List.forall_mem_cons.mpr ⟨va_Nw.of rfl (hts _ (List.mem_of_getElem? (i := 117) rfl)), (List.forall_mem_cons.mpr ⟨va_Nw.of rfl (hts _ (List.mem_of_getElem? (i := 119) rfl)), (List.forall_mem_cons.mpr ⟨va_Nw.of rfl (hts _ (List.mem_of_getElem? (i := 124) rfl)), (List.forall_mem_cons.mpr ⟨va_Nw.of rfl (hts _ (List.mem_of_getElem? (i := 145) rfl)), (List.forall_mem_cons.mpr ⟨va_Nw.of rfl (hts _ (List.mem_of_getElem? (i := 147) rfl)), (List.forall_mem_cons.mpr ⟨va_Nw.of rfl (hts _ (List.mem_of_getElem? (i := 149) rfl)), (List.forall_mem_cons.mpr ⟨va_Nw.of rfl (hts _ (List.mem_of_getElem? (i := 151) rfl)), (List.forall_mem_cons.mpr ⟨va_Nw.of rfl (hts _ (List.mem_of_getElem? (i := 153) rfl)), (List.forall_mem_cons.mpr ⟨va_Nw.of rfl (hts _ (List.mem_of_getElem? (i := 155) rfl)), (List.forall_mem_cons.mpr ⟨va_Nw.of rfl (hts _ (List.mem_of_getElem? (i := 178) rfl)), (List.forall_mem_cons.mpr ⟨va_Nw.of rfl (hts _ (List.mem_of_getElem? (i := 180) rfl)), (List.forall_mem_cons.mpr ⟨va_Nw.of rfl (hts _ (List.mem_of_getElem? (i := 182) rfl)), (List.forall_mem_cons.mpr ⟨va_Nw.of rfl (hts _ (List.mem_of_getElem? (i := 185) rfl)), (List.forall_mem_cons.mpr ⟨va_Nw.of rfl (hts _ (List.mem_of_getElem? (i := 187) rfl)), (List.forall_mem_cons.mpr ⟨va_Nw.of rfl (hts _ (List.mem_of_getElem? (i := 189) rfl)), (List.forall_mem_cons.mpr ⟨va_Nw.of rfl (hts _ (List.mem_of_getElem? (i := 212) rfl)), (List.forall_mem_cons.mpr ⟨va_Nw.of rfl (hts _ (List.mem_of_getElem? (i := 214) rfl)), (List.forall_mem_cons.mpr ⟨va_Nw.of rfl (hts _ (List.mem_of_getElem? (i := 216) rfl)), (List.forall_mem_cons.mpr ⟨va_Nw.of rfl (hts _ (List.mem_of_getElem? (i := 218) rfl)), (fun _ h9 => absurd h9 List.not_mem_nil)⟩)⟩)⟩)⟩)⟩)⟩)⟩)⟩)⟩)⟩)⟩)⟩)⟩)⟩)⟩)⟩)⟩)⟩)⟩)⟩)⟩)⟩)⟩)⟩)⟩)⟩)⟩)
  · exact (List.forall_mem_cons.mpr ⟨va_Nw.of rfl (hts _ (List.mem_of_getElem? (i := 376) rfl)), (List.forall_mem_cons.mpr ⟨va_Nw.of rfl (hts _ (List.mem_of_getElem? (i := 480) rfl)), (List.forall_mem_cons.mpr ⟨va_Nw.of rfl (hts _ (List.mem_of_getElem? (i := 461) rfl)), (fun _ h9 => absurd h9 List.not_mem_nil)⟩)⟩)⟩)
  · refine (List.forall_mem_cons.mpr ⟨(List.forall_mem_cons.mpr ⟨(fun h9 => absurd rfl h9), (List.forall_mem_cons.mpr ⟨(fun _ => va_Nc.of (hs _ (by decide +kernel))), (List.forall_mem_cons.mpr ⟨(fun _ => va_Nc.of (hs _ (by decide +kernel))), (fun _ h9 => absurd h9 List.not_mem_nil)⟩)⟩)⟩), (List.forall_mem_cons.mpr ⟨(List.forall_mem_cons.mpr ⟨(fun _ => va_Nc.of (hs _ (by decide +kernel))), (List.forall_mem_cons.mpr ⟨(fun h9 => absurd rfl h9), (List.forall_mem_cons.mpr ⟨(fun _ => va_Nc.of (hs _ (by decide +kernel))), (fun _ h9 => absurd h9 List.not_mem_nil)⟩)⟩)⟩), (List.forall_mem_cons.mpr ⟨(List.forall_mem_cons.mpr ⟨(fun _ => va_Nc.of (hs _ (by decide +kernel))), (List.forall_mem_cons.mpr ⟨(fun _ => va_Nc.of (hs _ (by decide +kernel))), (List.forall_mem_cons.mpr ⟨(fun h9 => absurd rfl h9), (fun _ h9 => absurd h9 List.not_mem_nil)⟩)⟩)⟩), (fun _ h9 => absurd h9 List.not_mem_nil)⟩)⟩)⟩)
  · exact (List.forall_mem_cons.mpr ⟨va_Nw.of rfl (hts _ (List.mem_of_getElem? (i := 378) rfl)), (List.forall_mem_cons.mpr ⟨va_Nw.of rfl (hts _ (List.mem_of_getElem? (i := 380) rfl)), (List.forall_mem_cons.mpr ⟨va_Nw.of rfl (hts _ (List.mem_of_getElem? (i := 382) rfl)), (fun _ h9 => absurd h9 List.not_mem_nil)⟩)⟩)⟩)
theorem k_arr {s : State} {args : Array Value} {ty : FieldType} (hn : ∀ n, ty ≠ .object n) (h : (Cond.arrayClass ty).before args s = true) : ∃ cA : ClassId, ArrOfT s cA ty ∧ va_RA s cA ty := by
  obtain ⟨cA, kA, comp, f1, f2, f3⟩ := Cond.arrayClass_spec h
  refine ⟨cA, fun n z => ⟨fun k h => (by cases h), kA, f2, comp, f3⟩, ?_⟩
  cases ty with
  | object n => exact absurd rfl (hn n)
  | _ => exact f1
set_option maxHeartbeats 4000000 in
set_option maxRecDepth 100000 in
/-- THE LAW, from its entry -/
theorem whole_start {p : Program} {e : Env} {s : State} {m : MethodId} {below : List Frame} {meth : Method} {c : Code} (l : Launch) (hflags : l.flags = flags0) {b L : Nat} {xs : Nat → Int32} (hL : L ≤ 2560) (C0 : lw_At p s m meth c b L xs) : W p l e room_1 s m #[Value.ref b] below meth c s.heap [] 0 0 (lw_Z below #[Value.ref b] s) (entryFrame m ([Value.ref b] : List Value).toArray 8) := by
  obtain ⟨hx, hb, hr, hml, hown, hts0, hX, hbl, hlocks, hgv⟩ := id C0
  have hstk : l.stackTraces = false := by unfold Launch.stackTraces; rw [hflags]; decide +kernel
  have hts : ∀ w ∈ TT, w.before #[Value.ref b] s = true := tt_in hts0
  have hA : ∀ q : Nat, s.heap.size ≤ q → (fun q : Nat => s.heap.size ≤ q) q := fun _ h => h
  obtain ⟨d0, i0, hKn0⟩ := u_known (C := RX0) (T := TX0) (N := 4) (n := 4) hts inT0 (hts _ tw_206)
  obtain ⟨d1, i1, hKn1⟩ := u_known (C := RX1) (T := TX1) (N := 7) (n := 7) hts inT1 (hts _ tw_171)
  obtain ⟨d2, i2, hKn2⟩ := u_known (C := RX2) (T := TX2) (N := 6) (n := 6) hts inT2 (hts _ tw_111)
  obtain ⟨d3, i3, hKn3⟩ := u_known (C := RX3) (T := TX3) (N := 6) (n := 6) hts inT3 (hts _ tw_139)
  obtain ⟨d4, i4, hKn4⟩ := u_known (C := RX4) (T := TX4) (N := 7) (n := 7) hts inT4 (hts _ tw_55)
  obtain ⟨d5, i5, hKn5⟩ := u_known (C := RX5) (T := TX5) (N := 3) (n := 3) hts inT5 (hts _ tw_92)
  obtain ⟨d6, i6, hKn6⟩ := u_known (C := RX6) (T := TX6) (N := 7) (n := 7) hts inT6 (hts _ tw_47)
  obtain ⟨d7, i7, hKn7⟩ := u_known (C := RX7) (T := TX7) (N := 37) (n := 37) hts inT7 (hts _ tw_681)
  obtain ⟨D, hKc⟩ : ∃ D : va_G, ∀ (k : Nat) (q : vw_C), vwCl[k]? = some q → u_Kn s q.1 q.2.1 q.2.2 (D.1 k) (D.2 k) := by
    refine ⟨(fun k => match k with | 0 => d0 | 1 => d1 | 2 => d2 | 3 => d3 | 4 => d4 | 5 => d5 | 6 => d6 | _ => d7, fun k => match k with | 0 => i0 | 1 => i1 | 2 => i2 | 3 => i3 | 4 => i4 | 5 => i5 | 6 => i6 | _ => i7), ?_⟩
    intro k q hq
    match k, hq with
    | 0, hq => cases hq; exact hKn0
    | 1, hq => cases hq; exact hKn1
    | 2, hq => cases hq; exact hKn2
    | 3, hq => cases hq; exact hKn3
    | 4, hq => cases hq; exact hKn4
    | 5, hq => cases hq; exact hKn5
    | 6, hq => cases hq; exact hKn6
    | 7, hq => cases hq; exact hKn7
    | k + 8, hq => simp [vwCl] at hq
  obtain ⟨cI, aI1, aI2⟩ := k_arr (ty := .int) (fun _ h => by cases h) (hts _ tw_90)
  obtain ⟨cZ, aZ1, aZ2⟩ := k_arr (ty := .boolean) (fun _ h => by cases h) (hts _ tw_169)
  obtain ⟨cJ, aJ1, aJ2⟩ := k_arr (ty := .long) (fun _ h => by cases h) (hts _ tw_228)
  have hK : va_K D vwCl (kTy cI cZ cJ) s := ⟨hKc, fun k q hq => by
    match k, hq with
    | 0, hq => cases hq; exact ⟨aI1, aI2⟩
    | 1, hq => cases hq; exact ⟨aZ1, aZ2⟩
    | 2, hq => cases hq; exact ⟨aJ1, aJ2⟩
    | k + 3, hq => simp [kTy] at hq⟩
  have hO : va_AOA .int s := fun _ => (hts0 _ (List.mem_of_getElem? (i := 61) rfl) : (Cond.arrayOver (.array .int)).before #[Value.ref b] s = true)
  have hS : va_S (fun q : Nat => s.heap.size ≤ q) s.heap s.heap [] := va_S.rf
  have hP : va_P D vwCl ([] : va_W) s.heap := fun k q h => by simp at h
  have hD : va_D (fun q : Nat => s.heap.size ≤ q) ([] : va_W) := ⟨fun i j p q h => by simp at h, fun k q h => by simp at h⟩
  have hl := lv_entry ([.ref b]) (n := 8) (Nat.le_of_ble_eq_true rfl)
  rw [lg_entry_eq]
  generalize (lg_sl ([.ref b]) ++ List.replicate (8 - (lg_sl ([.ref b])).length) Slot.unset).toArray = ls at hl ⊢
  have hl : lv_has ls 8 [(0, .ref b)] := hl
  refine va_new (ci := 6) (fs := [.null, .null, .null, .null, .null, .null, .int 0]) (C := RX6) (T := TX6) (N := 7) hx hb hts inT6 tyX6 tyX6_ok hown (hts _ tw_46) (hts _ tw_47) (hts _ tw_31) hK hP hD hS hA rfl (fun j hj => by rcases (show j = 0 ∨ j = 1 ∨ j = 2 ∨ j = 3 ∨ j = 4 ∨ j = 5 ∨ j = 6 by omega) with rfl | rfl | rfl | rfl | rfl | rfl | rfl <;> rfl) (Nat.le_of_ble_eq_true rfl) (Nat.le_of_ble_eq_true rfl) dL_law_0 (fun x H hP hD hS => ?_)
  refine W.widen (k := 1) (n := 7) (Nat.le_of_ble_eq_true rfl) (Nat.le_of_ble_eq_true rfl) ?_
  have hP : va_P D vwCl (([] : va_W) ++ [(x, .inr (6, [.null, .null, .null, .null, .null, .null, .int 0]))]) H := hP
  have hD : va_D (fun q : Nat => s.heap.size ≤ q) (([] : va_W) ++ [(x, .inr (6, [.null, .null, .null, .null, .null, .null, .int 0]))]) := hD
  refine lv_dup hx hb dL_law_3 rfl ?_
  have hFc := k_free hD hS hA
  refine va_callv (va_runI (As := []) (rest := [.ref x]) ⟨hx, hb, hml, hown, hts⟩ (k_X6 l D cI cZ cJ x H.size) (cwI 0 hts (gi_c tw_50) rfl rfl rfl (hts _ tw_31) (hts _ tw_48) (hts _ tw_49) rfl (by decide +kernel) ⟨Nat.le_of_ble_eq_true rfl, Nat.le_of_ble_eq_true rfl⟩) ⟨kPc_blind, fun U hU hW => ⟨rfl, by rw [hU], by rw [hU]; exact k_lastP hP, va_K.moved hW.alike hK, va_AOA.moved hW.alike hO, k_lastD hD⟩⟩ rfl rfl hl.1 rfl (lv_room (Nat.le_of_ble_eq_true rfl)) dL_law_4 ⟨Nat.le_of_ble_eq_true rfl, Nat.le_of_ble_eq_true rfl⟩) hS (fun q _ h => hFc q h) hFc (fun u t H1 locs ht hvm hw hB hz1 hk1 hS => ?_)
  obtain ⟨cQ, qt, qp, qr, qj, qa, ro, rt, rp, rr, rj, ra, hP1, hK1, hD1⟩ := hB
  have hKQ := va_K.moved hvm.symm hK1
  rw [ht] at hP1
  obtain ⟨hP, hD⟩ := k_join hP hD hk1 hFc hP1 hD1
  generalize H1 = H at hP hS ⊢
  have hP : va_P D vwCl (([] : va_W) ++ kW6 cI cZ cJ cQ x qt qp qr qj qa ro rt rp rr rj ra) H := hP
  have hD : va_D (fun q : Nat => s.heap.size ≤ q) (([] : va_W) ++ kW6 cI cZ cJ cQ x qt qp qr qj qa ro rt rp rr rj ra) := hD
  refine W.widen (k := 50) (n := 1812) (Nat.le_of_ble_eq_true rfl) (Nat.le_of_ble_eq_true rfl) ?_
  refine lv_astore_n (lv' := [(1, .ref x), (0, .ref b)]) hx hb dL_law_7 rfl hl (by decide) rfl (fun ls hl => ?_)
  refine va_new (ci := 7) (fs := [.int 0, .int 0, .int 0, .int 0, .null, .null, .null, .null, .null, .null, .null, .int 0, .null, .null, .null, .null, .null, .null, .int 0, .null, .null, .null, .int 0, .null, .null, .null, .null, .null, .null, .null, .int 0, .null, .null, .null, .null, .null, .null]) (C := RX7) (T := TX7) (N := 37) hx hb hts inT7 tyX7 tyX7_ok hown (hts _ tw_680) (hts _ tw_681) (hts _ tw_38) hK hP hD hS hA rfl (fun j hj => by rcases (show j = 0 ∨ j = 1 ∨ j = 2 ∨ j = 3 ∨ j = 4 ∨ j = 5 ∨ j = 6 ∨ j = 7 ∨ j = 8 ∨ j = 9 ∨ j = 10 ∨ j = 11 ∨ j = 12 ∨ j = 13 ∨ j = 14 ∨ j = 15 ∨ j = 16 ∨ j = 17 ∨ j = 18 ∨ j = 19 ∨ j = 20 ∨ j = 21 ∨ j = 22 ∨ j = 23 ∨ j = 24 ∨ j = 25 ∨ j = 26 ∨ j = 27 ∨ j = 28 ∨ j = 29 ∨ j = 30 ∨ j = 31 ∨ j = 32 ∨ j = 33 ∨ j = 34 ∨ j = 35 ∨ j = 36 by omega) with rfl | rfl | rfl | rfl | rfl | rfl | rfl | rfl | rfl | rfl | rfl | rfl | rfl | rfl | rfl | rfl | rfl | rfl | rfl | rfl | rfl | rfl | rfl | rfl | rfl | rfl | rfl | rfl | rfl | rfl | rfl | rfl | rfl | rfl | rfl | rfl | rfl <;> rfl) (Nat.le_of_ble_eq_true rfl) (Nat.le_of_ble_eq_true rfl) dL_law_8 (fun y H hP hD hS => ?_)
  refine W.widen (k := 51) (n := 1849) (Nat.le_of_ble_eq_true rfl) (Nat.le_of_ble_eq_true rfl) ?_
  have hP : va_P D vwCl ((([] : va_W) ++ kW6 cI cZ cJ cQ x qt qp qr qj qa ro rt rp rr rj ra) ++ [(y, .inr (7, [.int 0, .int 0, .int 0, .int 0, .null, .null, .null, .null, .null, .null, .null, .int 0, .null, .null, .null, .null, .null, .null, .int 0, .null, .null, .null, .int 0, .null, .null, .null, .null, .null, .null, .null, .int 0, .null, .null, .null, .null, .null, .null]))]) H := hP
  have hD : va_D (fun q : Nat => s.heap.size ≤ q) ((([] : va_W) ++ kW6 cI cZ cJ cQ x qt qp qr qj qa ro rt rp rr rj ra) ++ [(y, .inr (7, [.int 0, .int 0, .int 0, .int 0, .null, .null, .null, .null, .null, .null, .null, .int 0, .null, .null, .null, .null, .null, .null, .int 0, .null, .null, .null, .int 0, .null, .null, .null, .null, .null, .null, .null, .int 0, .null, .null, .null, .null, .null, .null]))]) := hD
  refine lv_dup hx hb dL_law_11 rfl ?_
  have hFc := k_free hD hS hA
  refine va_callv (va_runI (As := []) (rest := [.ref y]) ⟨hx, hb, hml, hown, hts⟩ (k_X7 l D cI cZ cJ y H.size) (cwI 0 hts (gi_c tw_684) rfl rfl rfl (hts _ tw_38) (hts _ tw_682) (hts _ tw_683) rfl (by decide +kernel) ⟨Nat.le_of_ble_eq_true rfl, Nat.le_of_ble_eq_true rfl⟩) ⟨kPc_blind, fun U hU hW => ⟨rfl, by rw [hU], by rw [hU]; exact k_lastP hP, va_K.moved hW.alike hK, va_AOA.moved hW.alike hO, k_lastD hD⟩⟩ rfl rfl hl.1 rfl (lv_room (Nat.le_of_ble_eq_true rfl)) dL_law_12 ⟨Nat.le_of_ble_eq_true rfl, Nat.le_of_ble_eq_true rfl⟩) hS (fun q _ h => hFc q h) hFc (fun u t H1 locs ht hvm hw hB hz1 hk1 hS => ?_)
  obtain ⟨rm, hP1, hD1⟩ := hB
  rw [ht] at hP1
  obtain ⟨hP, hD⟩ := k_join hP hD hk1 hFc hP1 hD1
  generalize H1 = H at hP hS ⊢
  have hP : va_P D vwCl ((([] : va_W) ++ kW6 cI cZ cJ cQ x qt qp qr qj qa ro rt rp rr rj ra) ++ kW7 cI cZ cJ y rm) H := hP
  have hD : va_D (fun q : Nat => s.heap.size ≤ q) ((([] : va_W) ++ kW6 cI cZ cJ cQ x qt qp qr qj qa ro rt rp rr rj ra) ++ kW7 cI cZ cJ y rm) := hD
  refine W.widen (k := 80) (n := 4105) (Nat.le_of_ble_eq_true rfl) (Nat.le_of_ble_eq_true rfl) ?_
  refine lv_astore_n (lv' := [(2, .ref y), (1, .ref x), (0, .ref b)]) hx hb dL_law_15 rfl hl (by decide) rfl (fun ls hl => ?_)
  refine lv_iconst (v := nI 1) hx hb dL_law_16 (by decide) ?_
  refine k_newJ hx hb hts hK hP hD hS hA 1 (by decide) 81 4106 rfl rfl (Nat.le_of_ble_eq_true rfl) (Nat.le_of_ble_eq_true rfl) dL_law_17 (fun z H hP hD hS => ?_)
  refine lv_astore_n (lv' := [(3, .ref z), (2, .ref y), (1, .ref x), (0, .ref b)]) hx hb dL_law_19 rfl hl (by decide) rfl (fun ls hl => ?_)
  refine lv_iconst (v := nI 0) hx hb dL_law_20 (by decide) ?_
  refine lv_istore (lv' := [(4, .int (nI 0)), (3, .ref z), (2, .ref y), (1, .ref x), (0, .ref b)]) hx hb dL_law_21 hl (by decide) rfl (fun ls hl => ?_)
  have hP9 : va_P D vwCl (Wd (kG D cI cZ cJ cQ s.heap.size x qt qp qr qj qa y z ro rt rp rr rj ra rm) kV kI kJ) H := kW9_P hP
  have hD9 : va_D (fun q : Nat => s.heap.size ≤ q) (Wd (kG D cI cZ cJ cQ s.heap.size x qt qp qr qj qa y z ro rt rp rr rj ra rm) kV kI kJ) := kW9_D hD
  have hK9 : va_K D vwCl (kTy cI cZ cJ ++ [(cQ, .array .int)]) s := hK.app hKQ
  have hC : Cx ((p, l, e, room_1, s, m, #[Value.ref b], below, meth, c) : wK) (kG D cI cZ cJ cQ s.heap.size x qt qp qr qj qa y z ro rt rp rr rj ra rm) RL cL_law 8 := ⟨⟨hx, hb, hml, hown, hts⟩, hK9, wD_of hD9, Nat.le_refl _, hlocks, kwX rfl hts0 hgv, hstk⟩
  have hLX : LX ((p, l, e, room_1, s, m, #[Value.ref b], below, meth, c) : wK) (kG D cI cZ cJ cQ s.heap.size x qt qp qr qj qa y z ro rt rp rr rj ra rm) b L xs := ⟨hC, rfl, hX, hbl, rfl, hL⟩
  exact law_loop hLX hr 81 4106 (by decide) (by decide) (L + 6) 0 kV kI kJ kInv (by omega) (by omega) H _ ls hP9 hS (by show lv_has ls c.maxLocals _; rw [hml]; exact lv_sub hl [4, 3, 2, 1, 0] rfl)
