
/-! the constructor of Roads -/
def kRE (cI cQ : ClassId) (a : Nat → Nat) (X : Nat → Nat → Int32) : Nat → va_E
  | 0 => .inr (4, [.ref (a 1), .ref (a 2), .ref (a 3), .ref (a 4), .ref (a 5), .int 0, .int 0])
  | 1 => .inl (cI, 24, .inl (fun _ => 0))
  | 2 => .inl (cI, 24, .inl (fun _ => 0))
  | 3 => .inl (cI, 24, .inl (fun _ => 0))
  | 4 => .inl (cI, 24, .inl (fun _ => 0))
  | 5 => .inl (cQ, 12, .inr (.inr (.inr (.inr (fun i => if i < 12 then some (a (i + 6)) else none)))))
  | k + 6 => .inl (cI, 12, .inl (X k))
def kRW (cI cQ : ClassId) (a : Nat → Nat) (X : Nat → Nat → Int32) : va_W := (List.range 18).map (fun k => (a k, kRE cI cQ a X k))
theorem kRW_at {cI cQ : ClassId} {a : Nat → Nat} {X : Nat → Nat → Int32} {k : Nat} (h : k < 18) : (kRW cI cQ a X)[k]? = some (a k, kRE cI cQ a X k) := by
  unfold kRW
  rw [List.getElem?_map, List.getElem?_range h]
  rfl
theorem kRW_len {cI cQ : ClassId} {a : Nat → Nat} {X : Nat → Nat → Int32} : (kRW cI cQ a X).length = 18 := by unfold kRW; rw [List.length_map, List.length_range]
theorem kRW_st {cI cQ : ClassId} {a : Nat → Nat} {X Y : Nat → Nat → Int32} {k : Nat} {e : va_E} (hk : k < 18) (he : e = kRE cI cQ a Y k) (ho : ∀ j, j ≠ k → kRE cI cQ a X j = kRE cI cQ a Y j) : (kRW cI cQ a X).set k (a k, e) = kRW cI cQ a Y := by
  apply List.ext_getElem?
  intro j
  rcases Nat.lt_or_ge j 18 with hj | hj
  · rw [kRW_at hj, List.getElem?_set]
    by_cases e1 : k = j
    · subst e1
      rw [if_pos rfl, if_pos (by rw [kRW_len]; exact hk), he]
    · rw [if_neg e1, kRW_at hj, ho j (fun q => e1 q.symm)]
  · rw [List.getElem?_eq_none (by rw [List.length_set, kRW_len]; exact hj), List.getElem?_eq_none (by rw [kRW_len]; exact hj)]
theorem kRW_set {cI cQ : ClassId} {a : Nat → Nat} {X : Nat → Nat → Int32} {i : Nat} (hi : i < 12) {f : Nat → Int32} : (kRW cI cQ a X).set (i + 6) (a (i + 6), .inl (cI, 12, .inl f)) = kRW cI cQ a (fun k => if k = i then f else X k) := by
  refine kRW_st (by omega) ?_ (fun j hj => ?_)
  · show _ = (.inl (cI, 12, .inl (if i = i then f else X i)) : va_E)
    rw [if_pos rfl]
  · rcases Nat.lt_or_ge j 6 with h | h
    · rcases (show j = 0 ∨ j = 1 ∨ j = 2 ∨ j = 3 ∨ j = 4 ∨ j = 5 by omega) with rfl | rfl | rfl | rfl | rfl | rfl <;> rfl
    · obtain ⟨k, rfl⟩ : ∃ k, j = k + 6 := ⟨j - 6, by omega⟩
      show (.inl (cI, 12, .inl (X k)) : va_E) = .inl (cI, 12, .inl (if k = i then f else X k))
      rw [if_neg (by omega)]
theorem kRW_put {cI cQ : ClassId} {a : Nat → Nat} {X : Nat → Nat → Int32} : (kRW cI cQ a X).set 0 (a 0, .inr (4, [.ref (a 1), .ref (a 2), .ref (a 3), .ref (a 4), .ref (a 5), .int 0, .int 0])) = kRW cI cQ a X := kRW_st (by decide) rfl (fun _ _ => rfl)
/-- the distances behind i rows and j places of the next -/
def kDX (i j : Nat) : Nat → Nat → Int32 := fun k b => if (k < i ∧ b < 12) ∨ (k = i ∧ b < j) then (if k = b then nI 0 else nI 1000000) else 0
theorem kDX_00 : kDX 0 0 = fun _ _ => 0 := by
  funext k b
  unfold kDX
  rw [if_neg (by omega)]
theorem kDX_n (i : Nat) : kDX i 12 = kDX (i + 1) 0 := by
  funext k b
  unfold kDX
  by_cases h : (k < i ∧ b < 12) ∨ (k = i ∧ b < 12)
  · rw [if_pos h, if_pos (show (k < i + 1 ∧ b < 12) ∨ (k = i + 1 ∧ b < 0) by omega)]
  · rw [if_neg h, if_neg (show ¬ ((k < i + 1 ∧ b < 12) ∨ (k = i + 1 ∧ b < 0)) by omega)]
theorem kDX_s {i j : Nat} (hj : j < 12) : (fun k => if k = i then upd (kDX i j i) j (if i = j then nI 0 else nI 1000000) else kDX i j k) = kDX i (j + 1) := by
  funext k b
  show (if k = i then upd (kDX i j i) j (if i = j then nI 0 else nI 1000000) else kDX i j k) b = kDX i (j + 1) k b
  by_cases h : k = i
  · subst h
    rw [if_pos rfl]
    unfold upd
    by_cases h2 : b = j
    · subst h2
      rw [if_pos rfl]
      unfold kDX
      rw [if_pos (show (k < k ∧ b < 12) ∨ (k = k ∧ b < b + 1) by omega)]
    · rw [if_neg h2]
      unfold kDX
      by_cases h3 : (k < k ∧ b < 12) ∨ (k = k ∧ b < j)
      · rw [if_pos h3, if_pos (show (k < k ∧ b < 12) ∨ (k = k ∧ b < j + 1) by omega)]
      · rw [if_neg h3, if_neg (show ¬ ((k < k ∧ b < 12) ∨ (k = k ∧ b < j + 1)) by omega)]
  · rw [if_neg h]
    unfold kDX
    by_cases h3 : (k < i ∧ b < 12) ∨ (k = i ∧ b < j)
    · rw [if_pos h3, if_pos (show (k < i ∧ b < 12) ∨ (k = i ∧ b < j + 1) by omega)]
    · rw [if_neg h3, if_neg (show ¬ ((k < i ∧ b < 12) ∨ (k = i ∧ b < j + 1)) by omega)]
set_option maxHeartbeats 4000000 in
set_option maxRecDepth 100000 in
theorem kl_X4b {p : Program} {l : Launch} {e : Env} {R : Room} {s : State} {m : MethodId} {args : Array Value} {below : List Frame} {meth : Method} {c : Code} {cells slots : Nat} {Q : State → Prop} {D : va_G} {cI cZ cJ : ClassId} {A : Nat → Prop} {cQ : ClassId} (hx : p.tables.exec = Jvm.exec) (hb : c.code = cX4_init) (hts : ∀ w ∈ TT, w.before args s = true) (hown : s.vm.findClass RX4 = some m.cls) (hK : va_K D vwCl (kTy cI cZ cJ) s) (hKQ : va_K D vwCl [(cQ, .array .int)] s) {a : Nat → Nat} {i : Nat} (hi : i < 12) (hend : ∀ (H : Heap) (locs : List Loc) (ls : Array Slot), va_P D vwCl (kRW cI cQ a (kDX i 12)) H → va_D A (kRW cI cQ a (kDX i 12)) → va_S A s.heap H locs → lv_has ls 3 [(2, .int (nI 12)), (1, .int (nI i)), (0, .ref (a 0))] → W p l e R s m args below meth c H locs cells slots Q (F0 m 89 ls [])) : ∀ (n j : Nat) (H : Heap) (locs : List Loc) (ls : Array Slot), j ≤ 12 → 12 < j + n → va_P D vwCl (kRW cI cQ a (kDX i j)) H → va_D A (kRW cI cQ a (kDX i j)) → va_S A s.heap H locs → lv_has ls 3 [(2, .int (nI j)), (1, .int (nI i)), (0, .ref (a 0))] → W p l e R s m args below meth c H locs cells slots Q (F0 m 58 ls []) := by
  intro n
  induction n with
  | zero =>
    intro j H locs ls h1 h2
    exact absurd h2 (by omega)
  | succ n ih =>
    intro j H locs ls h1 h2 hP hD hS hl
    refine lv_iload_n hx hb dX4_init_58 rfl (lv_at hl 0 rfl) ?_
    refine lv_bipush (v := nI 12) hx hb dX4_init_59 (by decide) ?_
    refine lv_icmp_ge (tgt := 89) hx hb dX4_init_61 (by decide) (fun c1 => ?_) (fun c1 => ?_)
    · have h3 := (nI_leI (by omega) (by omega)).mp c1
      have h4 : j = 12 := by omega
      subst h4
      exact hend H locs ls hP hD hS hl
    · have hlt : j < 12 := Nat.lt_of_not_le (fun q => c1 ((nI_leI (by omega) (by omega)).mpr q))
      refine lv_aload_n hx hb dX4_init_64 rfl (lv_at hl 2 rfl) ?_
      refine va_get (D := D) (ci := 4) (v := .ref (a 5)) (C := RX4) (T := TX4) (N := 7) hx hb hts inT4 hown hK hP 0 (kRW_at (by decide)) rfl 4 (by decide) (hts _ tw_69) (fun _ h9 => h9) rfl dX4_init_65 ?_
      refine lv_iload_n hx hb dX4_init_68 rfl (lv_at hl 1 rfl) ?_
      have hcl : (nI i).toNatClampNeg = i := nI_clamp (by omega)
      have hin : vp_in (nI i) 12 := vp_in_nI hi (by omega)
      refine W.aald (v := .ref (a (i + 6))) (ty := .array .int) hx hb (hP 5 _ (kRW_at (by decide))) ((hKQ.2 0 _ rfl).1 12 (fun j => va_rf (if j < 12 then some (a (j + 6)) else none))) rfl (fun q => by cases q) (by show ¬ (nI i < 0 ∨ (arrV _ _ _).slots.size ≤ _); rw [arrV_size]; exact hin) (by show (arrV _ _ _).slots[_]? = _; rw [hcl, arrV_read _ _ hi]; show some (va_rf (if _ then _ else _)) = _; rw [if_pos hi]; rfl) rfl rfl dX4_init_69 ?_
      refine W.eq (g2 := F0 m 70 ls [.ref (a (i + 6))]) rfl ?_
      refine lv_iload_n hx hb dX4_init_70 rfl (lv_at hl 0 rfl) ?_
      refine lv_iload_n hx hb dX4_init_71 rfl (lv_at hl 1 rfl) ?_
      refine lv_iload_n hx hb dX4_init_72 rfl (lv_at hl 0 rfl) ?_
      have hst : ∀ v : Int32, v = (if i = j then nI 0 else nI 1000000) → W p l e R s m args below meth c H locs cells slots Q (F0 m 82 ls [.int v, .int (nI j), .ref (a (i + 6))]) := by
        intro v hv
        refine va_iast hx hb hK hP hD hS (i + 6) 0 (kRW_at (by omega)) rfl (vp_in_nI hlt (by omega)) dX4_init_82 (fun H locs hP hD hS => ?_)
        rw [nI_clamp (by omega), kRW_set hi, hv, kDX_s hlt] at hP hD
        refine lv_iinc (v := nI (j + 1)) (lv' := [(2, .int (nI (j + 1))), (1, .int (nI i)), (0, .ref (a 0))]) hx hb dX4_init_83 hl (k := 0) rfl (nI_i1 _) (by decide) rfl (fun ls hl => ?_)
        refine lv_goto (tgt := 58) hx hb dX4_init_86 (by decide) ?_
        exact ih (j + 1) _ _ _ (by omega) (by omega) hP hD hS hl
      refine lv_icmp_ne (tgt := 80) hx hb dX4_init_73 (by decide) (fun c2 => ?_) (fun c2 => ?_)
      · refine lv_ldc (v := nI 1000000) hx hb hown (hts _ tw_62) dX4_init_80 ?_
        exact hst _ (by rw [if_neg (fun q => c2 (by rw [q]))])
      · refine lv_iconst (v := nI 0) hx hb dX4_init_76 (by decide) ?_
        refine lv_goto (tgt := 82) hx hb dX4_init_77 (by decide) ?_
        exact hst _ (by rw [if_pos ((nI_eq (by omega) (by omega)).mp c2)])
set_option maxHeartbeats 4000000 in
set_option maxRecDepth 100000 in
theorem kl_X4a {p : Program} {l : Launch} {e : Env} {R : Room} {s : State} {m : MethodId} {args : Array Value} {below : List Frame} {meth : Method} {c : Code} {cells slots : Nat} {Q : State → Prop} {D : va_G} {cI cZ cJ : ClassId} {A : Nat → Prop} {cQ : ClassId} (hx : p.tables.exec = Jvm.exec) (hb : c.code = cX4_init) (hts : ∀ w ∈ TT, w.before args s = true) (hown : s.vm.findClass RX4 = some m.cls) (hK : va_K D vwCl (kTy cI cZ cJ) s) (hKQ : va_K D vwCl [(cQ, .array .int)] s) {a : Nat → Nat} (hend : ∀ (H : Heap) (locs : List Loc) (ls : Array Slot), va_P D vwCl (kRW cI cQ a (kDX 12 0)) H → va_D A (kRW cI cQ a (kDX 12 0)) → va_S A s.heap H locs → lv_has ls 3 [(1, .int (nI 12)), (0, .ref (a 0))] → W p l e R s m args below meth c H locs cells slots Q (F0 m 95 ls [])) : ∀ (n i : Nat) (H : Heap) (locs : List Loc) (ls : Array Slot), i ≤ 12 → 12 < i + n → va_P D vwCl (kRW cI cQ a (kDX i 0)) H → va_D A (kRW cI cQ a (kDX i 0)) → va_S A s.heap H locs → lv_has ls 3 [(1, .int (nI i)), (0, .ref (a 0))] → W p l e R s m args below meth c H locs cells slots Q (F0 m 50 ls []) := by
  intro n
  induction n with
  | zero =>
    intro i H locs ls h1 h2
    exact absurd h2 (by omega)
  | succ n ih =>
    intro i H locs ls h1 h2 hP hD hS hl
    refine lv_iload_n hx hb dX4_init_50 rfl (lv_at hl 0 rfl) ?_
    refine lv_bipush (v := nI 12) hx hb dX4_init_51 (by decide) ?_
    refine lv_icmp_ge (tgt := 95) hx hb dX4_init_53 (by decide) (fun c1 => ?_) (fun c1 => ?_)
    · have h3 := (nI_leI (by omega) (by omega)).mp c1
      have h4 : i = 12 := by omega
      subst h4
      exact hend H locs ls hP hD hS hl
    · have hlt : i < 12 := Nat.lt_of_not_le (fun q => c1 ((nI_leI (by omega) (by omega)).mpr q))
      refine lv_iconst (v := nI 0) hx hb dX4_init_56 (by decide) ?_
      refine lv_istore_n (lv' := [(2, .int (nI 0)), (1, .int (nI i)), (0, .ref (a 0))]) hx hb dX4_init_57 rfl hl (by decide) rfl (fun ls hl => ?_)
      refine kl_X4b hx hb hts hown hK hKQ hlt (fun H locs ls hP hD hS hl => ?_) 13 0 H _ ls (by omega) (by omega) hP hD hS hl
      refine lv_iinc (v := nI (i + 1)) (lv' := [(1, .int (nI (i + 1))), (2, .int (nI 12)), (0, .ref (a 0))]) hx hb dX4_init_89 hl (k := 1) rfl (nI_i1 _) (by decide) rfl (fun ls hl => ?_)
      refine lv_goto (tgt := 50) hx hb dX4_init_92 (by decide) ?_
      rw [kDX_n] at hP hD
      exact ih (i + 1) _ _ _ (by omega) (by omega) hP hD hS (lv_sub hl [0, 2] rfl)
def kQ4 (D : va_G) (A : Nat → Prop) (cI : ClassId) (h0 : Nat) : Array Value → State → Outcome → State → Prop := va_Qv (fun _ : Unit => True) (fun _ t => ∃ (r : Nat → Nat) (cQ : ClassId), r 0 = h0 ∧ va_P D vwCl (kRW cI cQ r (kDX 12 0)) t.heap ∧ va_K D vwCl [(cQ, .array .int)] t ∧ va_D A (kRW cI cQ r (kDX 12 0))) A
set_option maxHeartbeats 4000000 in
set_option maxRecDepth 100000 in
theorem k_X4 (l : Launch) (D : va_G) (cI cZ cJ : ClassId) (h0 sz : Nat) : Met l yX4_init (Cond.code yX4_init cX4_init 3 none :: TT) { frames := 1, cells := 17, slots := 252, locals := 24 } (kPc D cI cZ cJ sz h0 4 [.null, .null, .null, .null, .null, .int 0, .int 0]) (kQ4 D (va_A [(h0, .inr (4, [.null, .null, .null, .null, .null, .int 0, .int 0]))] sz) cI h0) 17 252 (va_A [(h0, .inr (4, [.null, .null, .null, .null, .null, .int 0, .int 0]))] sz) := by
  refine Met.ofW (cc := cX4_init) (maxL := 3) (ret := none) (by decide) rfl ?_
  intro p e s m args below meth c s₁ B hml hv
  obtain ⟨rfl, hsz, hP, hK, hO, hD0⟩ := hv
  have hx := B.exec
  have hb := B.bytes
  have hr := B.returns
  have hts : ∀ w ∈ TT, w.before _ s = true := fun w hw => atoms_spec (ws := Cond.code yX4_init cX4_init 3 none :: TT) B.pre w (List.mem_cons_of_mem _ hw)
  have hown : s.vm.findClass RX4 = some m.cls := findClass_of_methodNamed B.named
  have hlocks := B.notSynchronized
  have hin : meth.name = "<init>" := (name_of_methodNamed B.named B.method).1
  subst hsz
  have hD := hD0.self (sz := s.heap.size)
  generalize hAe : va_A [(h0, .inr (4, [.null, .null, .null, .null, .null, .int 0, .int 0]))] s.heap.size = A at hD ⊢
  have hA : ∀ q : Nat, s.heap.size ≤ q → A q := fun q h => by rw [← hAe]; exact Or.inr h
  have hS : va_S A s.heap s.heap [] := va_S.rf
  have hP : va_P D vwCl [(h0, .inr (4, [.null, .null, .null, .null, .null, .int 0, .int 0]))] s.heap := hP
  have hl := lv_entry ([.ref h0]) (n := 3) (Nat.le_of_ble_eq_true rfl)
  rw [lg_entry_eq]
  generalize (lg_sl ([.ref h0]) ++ List.replicate (3 - (lg_sl ([.ref h0])).length) Slot.unset).toArray = ls at hl ⊢
  have hl : lv_has ls 3 [(0, .ref h0)] := hl
  refine lv_aload_n hx hb dX4_init_0 rfl (lv_at hl 0 rfl) ?_
  refine W.objInit hx hb hown (hts _ tw_59) (hts _ tw_52) (hts _ tw_53) rfl (by rw [hml]; exact hl.1) rfl dX4_init_1 (Nat.le_of_ble_eq_true rfl) (Nat.le_of_ble_eq_true rfl) ?_
  refine W.eq (g2 := F0 m 4 ls []) rfl ?_
  refine lv_aload_n hx hb dX4_init_4 rfl (lv_at hl 0 rfl) ?_
  refine lv_bipush (v := nI 24) hx hb dX4_init_5 (by decide) ?_
  refine k_newI hx hb hts hK hP hD hS hA 24 (by decide) 1 24 rfl rfl (Nat.le_of_ble_eq_true rfl) (Nat.le_of_ble_eq_true rfl) dX4_init_7 (fun q1 H hP hD hS => ?_)
  have hP : va_P D vwCl [(h0, .inr (4, [.null, .null, .null, .null, .null, .int 0, .int 0])), aI q1 cI 24] H := hP
  have hD : va_D A [(h0, .inr (4, [.null, .null, .null, .null, .null, .int 0, .int 0])), aI q1 cI 24] := hD
  refine va_putF (D := D) (ci := 4) (v := .ref q1) (ty := .array .int) (C := RX4) (T := TX4) (N := 7) hx hb hts inT4 tyX4 tyX4_ok nmX4 hown hK hP hD hS 0 rfl rfl 0 (by decide) (hts _ tw_63) (fun _ h9 => h9) rfl hin rfl (by decide +kernel) rfl rfl (Nat.le_of_ble_eq_true rfl) dX4_init_9 (fun H locs hP hD hS => ?_)
  have hP : va_P D vwCl [(h0, .inr (4, [.ref q1, .null, .null, .null, .null, .int 0, .int 0])), aI q1 cI 24] H := hP
  have hD : va_D A [(h0, .inr (4, [.ref q1, .null, .null, .null, .null, .int 0, .int 0])), aI q1 cI 24] := hD
  refine lv_aload_n hx hb dX4_init_12 rfl (lv_at hl 0 rfl) ?_
  refine lv_bipush (v := nI 24) hx hb dX4_init_13 (by decide) ?_
  refine k_newI hx hb hts hK hP hD hS hA 24 (by decide) 2 48 rfl rfl (Nat.le_of_ble_eq_true rfl) (Nat.le_of_ble_eq_true rfl) dX4_init_15 (fun q2 H hP hD hS => ?_)
  have hP : va_P D vwCl [(h0, .inr (4, [.ref q1, .null, .null, .null, .null, .int 0, .int 0])), aI q1 cI 24, aI q2 cI 24] H := hP
  have hD : va_D A [(h0, .inr (4, [.ref q1, .null, .null, .null, .null, .int 0, .int 0])), aI q1 cI 24, aI q2 cI 24] := hD
  refine va_putF (D := D) (ci := 4) (v := .ref q2) (ty := .array .int) (C := RX4) (T := TX4) (N := 7) hx hb hts inT4 tyX4 tyX4_ok nmX4 hown hK hP hD hS 0 rfl rfl 1 (by decide) (hts _ tw_64) (fun _ h9 => h9) rfl hin rfl (by decide +kernel) rfl rfl (Nat.le_of_ble_eq_true rfl) dX4_init_17 (fun H locs hP hD hS => ?_)
  have hP : va_P D vwCl [(h0, .inr (4, [.ref q1, .ref q2, .null, .null, .null, .int 0, .int 0])), aI q1 cI 24, aI q2 cI 24] H := hP
  have hD : va_D A [(h0, .inr (4, [.ref q1, .ref q2, .null, .null, .null, .int 0, .int 0])), aI q1 cI 24, aI q2 cI 24] := hD
  refine lv_aload_n hx hb dX4_init_20 rfl (lv_at hl 0 rfl) ?_
  refine lv_bipush (v := nI 24) hx hb dX4_init_21 (by decide) ?_
  refine k_newI hx hb hts hK hP hD hS hA 24 (by decide) 3 72 rfl rfl (Nat.le_of_ble_eq_true rfl) (Nat.le_of_ble_eq_true rfl) dX4_init_23 (fun q3 H hP hD hS => ?_)
  have hP : va_P D vwCl [(h0, .inr (4, [.ref q1, .ref q2, .null, .null, .null, .int 0, .int 0])), aI q1 cI 24, aI q2 cI 24, aI q3 cI 24] H := hP
  have hD : va_D A [(h0, .inr (4, [.ref q1, .ref q2, .null, .null, .null, .int 0, .int 0])), aI q1 cI 24, aI q2 cI 24, aI q3 cI 24] := hD
  refine va_putF (D := D) (ci := 4) (v := .ref q3) (ty := .array .int) (C := RX4) (T := TX4) (N := 7) hx hb hts inT4 tyX4 tyX4_ok nmX4 hown hK hP hD hS 0 rfl rfl 2 (by decide) (hts _ tw_65) (fun _ h9 => h9) rfl hin rfl (by decide +kernel) rfl rfl (Nat.le_of_ble_eq_true rfl) dX4_init_25 (fun H locs hP hD hS => ?_)
  have hP : va_P D vwCl [(h0, .inr (4, [.ref q1, .ref q2, .ref q3, .null, .null, .int 0, .int 0])), aI q1 cI 24, aI q2 cI 24, aI q3 cI 24] H := hP
  have hD : va_D A [(h0, .inr (4, [.ref q1, .ref q2, .ref q3, .null, .null, .int 0, .int 0])), aI q1 cI 24, aI q2 cI 24, aI q3 cI 24] := hD
  refine lv_aload_n hx hb dX4_init_28 rfl (lv_at hl 0 rfl) ?_
  refine lv_bipush (v := nI 24) hx hb dX4_init_29 (by decide) ?_
  refine k_newI hx hb hts hK hP hD hS hA 24 (by decide) 4 96 rfl rfl (Nat.le_of_ble_eq_true rfl) (Nat.le_of_ble_eq_true rfl) dX4_init_31 (fun q4 H hP hD hS => ?_)
  have hP : va_P D vwCl [(h0, .inr (4, [.ref q1, .ref q2, .ref q3, .null, .null, .int 0, .int 0])), aI q1 cI 24, aI q2 cI 24, aI q3 cI 24, aI q4 cI 24] H := hP
  have hD : va_D A [(h0, .inr (4, [.ref q1, .ref q2, .ref q3, .null, .null, .int 0, .int 0])), aI q1 cI 24, aI q2 cI 24, aI q3 cI 24, aI q4 cI 24] := hD
  refine va_putF (D := D) (ci := 4) (v := .ref q4) (ty := .array .int) (C := RX4) (T := TX4) (N := 7) hx hb hts inT4 tyX4 tyX4_ok nmX4 hown hK hP hD hS 0 rfl rfl 3 (by decide) (hts _ tw_67) (fun _ h9 => h9) rfl hin rfl (by decide +kernel) rfl rfl (Nat.le_of_ble_eq_true rfl) dX4_init_33 (fun H locs hP hD hS => ?_)
  have hP : va_P D vwCl [(h0, .inr (4, [.ref q1, .ref q2, .ref q3, .ref q4, .null, .int 0, .int 0])), aI q1 cI 24, aI q2 cI 24, aI q3 cI 24, aI q4 cI 24] H := hP
  have hD : va_D A [(h0, .inr (4, [.ref q1, .ref q2, .ref q3, .ref q4, .null, .int 0, .int 0])), aI q1 cI 24, aI q2 cI 24, aI q3 cI 24, aI q4 cI 24] := hD
  refine lv_aload_n hx hb dX4_init_36 rfl (lv_at hl 0 rfl) ?_
  refine lv_bipush (v := nI 12) hx hb dX4_init_37 (by decide) ?_
  refine lv_bipush (v := nI 12) hx hb dX4_init_39 (by decide) ?_
  have hfI : s.vm.findClass (FieldType.array .int).toString = some cI := (hK.2 0 _ rfl).2
  refine va_mna (X := [(h0, .inr (4, [.ref q1, .ref q2, .ref q3, .ref q4, .null, .int 0, .int 0])), aI q1 cI 24, aI q2 cI 24, aI q3 cI 24, aI q4 cI 24]) (L := []) (f := fun _ => .inr (0, [])) (ty := .int) (cy := cI) (n := nI 12) (k := nI 12) (N' := 12) (K' := 12) (z := (12, .inl (fun _ => 0))) hx hb hown (by rw [show "[" ++ (FieldType.array .int).toString = "[[I" by decide +kernel]; exact hts _ tw_60) hO (hts (.arrayClass .int) tw_90) hfI hK hP hD hS hA (by decide) (by decide) (nI_clamp (by decide)) (nI_clamp (by decide)) (by decide) (by decide) (by decide) rfl rfl (Nat.le_of_ble_eq_true rfl) (Nat.le_of_ble_eq_true rfl) (fun c9 => by show ({ cls := c9, slots := Array.replicate 12 (.int 0), vm := .none } : Cell) = _; rw [arrV_new]; rfl) dX4_init_41 (fun q5 r cQ H hinj _ hK4 hP hD hS => ?_)
  have hrow : ∀ f : Nat → va_E, va_pl ([] ++ (List.range 12).map r) (vr_up f ((List.range 12).map r) (.inl (cI, 12, .inl (fun _ => 0)))) = [aI (r 0) cI 12, aI (r 1) cI 12, aI (r 2) cI 12, aI (r 3) cI 12, aI (r 4) cI 12, aI (r 5) cI 12, aI (r 6) cI 12, aI (r 7) cI 12, aI (r 8) cI 12, aI (r 9) cI 12, aI (r 10) cI 12, aI (r 11) cI 12] := fun f => (vr_rows (f := f) (fun _ _ h9 => absurd h9 List.not_mem_nil)).symm
  rw [hrow] at hP hD
  have hKQ : va_K D vwCl [(cQ, .array .int)] s := hK4.sub [3] rfl
  have hP : va_P D vwCl [(h0, .inr (4, [.ref q1, .ref q2, .ref q3, .ref q4, .null, .int 0, .int 0])), aI q1 cI 24, aI q2 cI 24, aI q3 cI 24, aI q4 cI 24, (q5, .inl (cQ, 12, .inr (.inr (.inr (.inr (fun i => if i < 12 then some (r i) else none)))))), aI (r 0) cI 12, aI (r 1) cI 12, aI (r 2) cI 12, aI (r 3) cI 12, aI (r 4) cI 12, aI (r 5) cI 12, aI (r 6) cI 12, aI (r 7) cI 12, aI (r 8) cI 12, aI (r 9) cI 12, aI (r 10) cI 12, aI (r 11) cI 12] H := hP
  have hD : va_D A [(h0, .inr (4, [.ref q1, .ref q2, .ref q3, .ref q4, .null, .int 0, .int 0])), aI q1 cI 24, aI q2 cI 24, aI q3 cI 24, aI q4 cI 24, (q5, .inl (cQ, 12, .inr (.inr (.inr (.inr (fun i => if i < 12 then some (r i) else none)))))), aI (r 0) cI 12, aI (r 1) cI 12, aI (r 2) cI 12, aI (r 3) cI 12, aI (r 4) cI 12, aI (r 5) cI 12, aI (r 6) cI 12, aI (r 7) cI 12, aI (r 8) cI 12, aI (r 9) cI 12, aI (r 10) cI 12, aI (r 11) cI 12] := hD
  refine W.widen (k := 17) (n := 252) (Nat.le_of_ble_eq_true rfl) (Nat.le_of_ble_eq_true rfl) ?_
  refine va_putF (D := D) (ci := 4) (v := .ref q5) (ty := .array (.array .int)) (C := RX4) (T := TX4) (N := 7) hx hb hts inT4 tyX4 tyX4_ok nmX4 hown hK hP hD hS 0 rfl rfl 4 (by decide) (hts _ tw_69) (fun _ h9 => h9) rfl hin rfl (by decide +kernel) rfl rfl (Nat.le_of_ble_eq_true rfl) dX4_init_45 (fun H locs hP hD hS => ?_)
  have hP : va_P D vwCl [(h0, .inr (4, [.ref q1, .ref q2, .ref q3, .ref q4, .ref q5, .int 0, .int 0])), aI q1 cI 24, aI q2 cI 24, aI q3 cI 24, aI q4 cI 24, (q5, .inl (cQ, 12, .inr (.inr (.inr (.inr (fun i => if i < 12 then some (r i) else none)))))), aI (r 0) cI 12, aI (r 1) cI 12, aI (r 2) cI 12, aI (r 3) cI 12, aI (r 4) cI 12, aI (r 5) cI 12, aI (r 6) cI 12, aI (r 7) cI 12, aI (r 8) cI 12, aI (r 9) cI 12, aI (r 10) cI 12, aI (r 11) cI 12] H := hP
  have hD : va_D A [(h0, .inr (4, [.ref q1, .ref q2, .ref q3, .ref q4, .ref q5, .int 0, .int 0])), aI q1 cI 24, aI q2 cI 24, aI q3 cI 24, aI q4 cI 24, (q5, .inl (cQ, 12, .inr (.inr (.inr (.inr (fun i => if i < 12 then some (r i) else none)))))), aI (r 0) cI 12, aI (r 1) cI 12, aI (r 2) cI 12, aI (r 3) cI 12, aI (r 4) cI 12, aI (r 5) cI 12, aI (r 6) cI 12, aI (r 7) cI 12, aI (r 8) cI 12, aI (r 9) cI 12, aI (r 10) cI 12, aI (r 11) cI 12] := hD
  refine lv_iconst (v := nI 0) hx hb dX4_init_48 (by decide) ?_
  refine lv_istore_n (lv' := [(1, .int (nI 0)), (0, .ref h0)]) hx hb dX4_init_49 rfl hl (by decide) rfl (fun ls hl => ?_)
  obtain ⟨a, ha⟩ : ∃ a : Nat → Nat, a = fun k => match k with | 0 => h0 | 1 => q1 | 2 => q2 | 3 => q3 | 4 => q4 | 5 => q5 | k + 6 => r k := ⟨_, rfl⟩
  have hP : va_P D vwCl (kRW cI cQ a (kDX 0 0)) H := by rw [kDX_00, ha]; exact hP
  have hD : va_D A (kRW cI cQ a (kDX 0 0)) := by rw [kDX_00, ha]; exact hD
  have ha0 : a 0 = h0 := by rw [ha]
  rw [← ha0] at hl
  refine kl_X4a hx hb hts hown hK hKQ (fun H locs ls hP hD hS hl => ?_) 13 0 H _ ls (by omega) (by omega) hP hD hS hl
  refine lv_aload_n hx hb dX4_init_95 rfl (lv_at hl 1 rfl) ?_
  refine lv_iconst (v := 0) hx hb dX4_init_96 (by decide) ?_
  refine va_put (D := D) (ci := 4) (v := .int 0) (ty := .int) (C := RX4) (T := TX4) (N := 7) hx hb hts inT4 tyX4 tyX4_ok nmX4 hown hK hP hD hS 0 (kRW_at (by decide)) rfl 5 (by decide) (hts _ tw_71) (fun _ h9 => h9) rfl (by decide +kernel) rfl rfl (Nat.le_of_ble_eq_true rfl) dX4_init_97 (fun H locs hP hD hS => ?_)
  have hP : va_P D vwCl (kRW cI cQ a (kDX 12 0)) H := Eq.mp (congrArg (fun w => va_P D vwCl w H) kRW_put) hP
  have hD : va_D A (kRW cI cQ a (kDX 12 0)) := Eq.mp (congrArg (fun w => va_D A w) kRW_put) hD
  refine lv_aload_n hx hb dX4_init_100 rfl (lv_at hl 1 rfl) ?_
  refine lv_iconst (v := 0) hx hb dX4_init_101 (by decide) ?_
  refine va_put (D := D) (ci := 4) (v := .int 0) (ty := .int) (C := RX4) (T := TX4) (N := 7) hx hb hts inT4 tyX4 tyX4_ok nmX4 hown hK hP hD hS 0 (kRW_at (by decide)) rfl 6 (by decide) (hts _ tw_73) (fun _ h9 => h9) rfl (by decide +kernel) rfl rfl (Nat.le_of_ble_eq_true rfl) dX4_init_102 (fun H locs hP hD hS => ?_)
  have hP : va_P D vwCl (kRW cI cQ a (kDX 12 0)) H := Eq.mp (congrArg (fun w => va_P D vwCl w H) kRW_put) hP
  have hD : va_D A (kRW cI cQ a (kDX 12 0)) := Eq.mp (congrArg (fun w => va_D A w) kRW_put) hD
  exact W.vret hx hb hr (fun t ht hW => ⟨⟨(), rfl, trivial, a, cQ, ha0, by rw [ht]; exact hP, va_K.moved hW.alike hKQ, hD⟩, hS.F ht⟩) hS.2.2 dX4_init_105
