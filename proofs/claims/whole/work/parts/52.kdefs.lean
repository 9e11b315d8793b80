/-! the constructors: what they find and what they leave -/
theorem k_overB {args : Array Value} {s : State} {t : FieldType} (h : (Cond.arrayOver (.array t)).before args s = true) :
    ∃ comp c k, s.vm.findClass (FieldType.array t).toString = some comp ∧ (s.vm.classes.findIdx? fun (x : Class) => match x.kind with | .array component _ => component == comp | _ => false) = some c ∧ s.vm.classes[c]? = some k ∧ k.kind = .array comp (.array t) ∧ s.vm.findClass ("[" ++ (FieldType.array t).toString) = some c := by
  simp only [Cond.before, Cond.holds, Cond.value, beq_iff_eq] at h
  cases hc : s.vm.findClass (FieldType.array t).toString with
  | none => simp [hc] at h
  | some comp =>
    simp only [hc, Option.bind_some, Option.bind_eq_some_iff, Option.map_eq_some_iff] at h
    obtain ⟨c, hi, k, hk, hb⟩ := h
    obtain ⟨hlt, hp, -⟩ := Array.findIdx?_eq_some_iff_getElem.mp hi
    have hkk : s.vm.classes[c] = k := (Array.getElem?_eq_some_iff.mp hk).2
    rw [hkk] at hp
    cases hkind : k.kind with
    | array component ty =>
      rw [hkind] at hb hp
      simp at hb hp
      exact ⟨comp, c, k, rfl, hi, hk, by rw [hkind, hp, hb.1], hb.2⟩
    | _ => rw [hkind] at hb; simp at hb
theorem va_AOA.moved {t : FieldType} {u U : State} (hvm : u.vm.Alike U.vm) (h : va_AOA t u) : va_AOA t U := by
  intro args
  obtain ⟨comp, c, k, h1, h2, h3, h4, h5⟩ := k_overB (h #[])
  obtain ⟨k', hk', he⟩ := hvm.2.2 _ _ h3
  have hi : (U.vm.classes.findIdx? fun (x : Class) => match x.kind with | .array component _ => component == comp | _ => false) = some c := by
    have hbare : U.vm.bare = u.vm.bare := by first | exact hvm.bare_eq | exact hvm.bare_eq.symm
    exact ((va_idx_bare U.vm comp).symm.trans ((congrArg (fun v : Vm => v.classes.findIdx? fun (x : Class) => match x.kind with | .array component _ => component == comp | _ => false) hbare).trans (va_idx_bare u.vm comp))).trans h2
  have hkind : k'.kind = .array comp (.array t) := by rw [he]; exact h4
  have f1 : U.vm.findClass (FieldType.array t).toString = some comp := by rw [hvm.findClass]; exact h1
  have f2 : U.vm.findClass ("[" ++ (FieldType.array t).toString) = some c := by rw [hvm.findClass]; exact h5
  unfold Cond.before Cond.holds
  simp only [Cond.value]
  rw [f1, Option.bind_some]
  refine (congrArg (fun o : Option Nat => (o.bind (fun c => (U.vm.classes[c]?).map fun (k : Class) => match k.kind with | .array _ ty => decide (ty = FieldType.array t) && decide (U.vm.findClass ("[" ++ (FieldType.array t).toString) = some c) | _ => false) == some true)) hi).trans ?_
  simp [hk', hkind, f2]
def kTy (cI cZ cJ : ClassId) : List (ClassId × FieldType) := [(cI, .int), (cZ, .boolean), (cJ, .long)]
/-- a new array of ints, booleans or longs -/
abbrev aI (q : Nat) (c : ClassId) (n : Nat) : Nat × va_E := (q, .inl (c, n, .inl (fun _ => 0)))
abbrev aF (q : Nat) (c : ClassId) (n : Nat) (f : Nat → Int32) : Nat × va_E := (q, .inl (c, n, .inl f))
abbrev aJ (q : Nat) (c : ClassId) (n : Nat) : Nat × va_E := (q, .inl (c, n, .inr (.inl (fun _ => 0))))
/-- v at the first k places, 0 behind -/
def kF (v : Int32) (k : Nat) : Nat → Int32 := fun j => if j < k then v else 0
theorem kF_0 (v : Int32) : kF v 0 = fun _ => 0 := by
  funext j
  unfold kF
  rw [if_neg (by omega)]
theorem kF_s (v : Int32) (k : Nat) : upd (kF v k) k v = kF v (k + 1) := by
  funext j
  unfold upd kF
  by_cases h : j = k
  · rw [if_pos h, if_pos (by omega)]
  · rw [if_neg h]
    by_cases h2 : j < k
    · rw [if_pos h2, if_pos (by omega)]
    · rw [if_neg h2, if_neg (by omega)]
theorem nI_nn {n : Nat} (h : n < 2 ^ 31) : ¬ nI n < 0 := fun q => by
  have h2 := (nI_ltI (a := n) (b := 0) h (by omega)).mp (by rw [nI_0]; exact q)
  omega
section KN
variable {p : Program} {l : Launch} {e : Env} {R : Room} {s : State} {m : MethodId} {args : Array Value} {below : List Frame} {meth : Method} {c : Code} {H : Heap} {locs : List Loc} {cells slots : Nat} {Q : State → Prop}
variable {cc : ByteArray} {pc : Nat} {ls : Array Slot} {rest : List Value} {D : va_G} {A : Nat → Prop} {ws : va_W} {H0 : Heap} {cI cZ cJ : ClassId}

theorem k_newI (hexec : p.tables.exec = Jvm.exec) (hb : c.code = cc) (hts : ∀ w ∈ TT, w.before args s = true) (hK : va_K D vwCl (kTy cI cZ cJ) s) (hP : va_P D vwCl ws H) (hD : va_D A ws) (hS : va_S A H0 H locs) (hA : ∀ q, H0.size ≤ q → A q) (N : Nat) (hN : N ≤ 1000) (c2 s2 : Nat) (ec : cells + 1 = c2) (es : slots + N = s2) (hcells : c2 ≤ R.cells) (hslots : s2 ≤ R.slots) (hdg : decode cc pc = .ok (.newarray .int, 2))
    (kk : ∀ (q : Nat) (H1 : Heap), va_P D vwCl (ws ++ [(q, .inl (cI, N, .inl (fun _ => 0)))]) H1 → va_D A (ws ++ [(q, .inl (cI, N, .inl (fun _ => 0)))]) → va_S A H0 H1 locs → W p l e R s m args below meth c H1 locs c2 s2 Q (F0 m (pc + 2) ls (.ref q :: rest))) : W p l e R s m args below meth c H locs cells slots Q (F0 m pc ls (.int (nI N) :: rest)) := by
  subst ec es
  refine va_newa (atype := .int) (ty := .int) (N' := N) (a0 := (N, .inl (fun _ => 0))) hexec hb (hts (.arrayClass .int) tw_90) rfl hK hP hD hS hA (fun _ => rfl) (nI_nn (by omega)) (nI_clamp (by omega)) (by show N * _ ≤ 536870912; exact Nat.le_trans (Nat.mul_le_mul hN (Nat.le_refl _)) (by decide)) hcells hslots hdg (fun q cA H1 hK1 hP1 hD1 hS1 => ?_)
  have e : cA = cI := Option.some.inj (((hK1.2 3 _ rfl).2 : s.vm.findClass _ = some _).symm.trans ((hK.2 0 _ rfl).2 : s.vm.findClass _ = some _))
  subst e
  exact kk q H1 hP1 hD1 hS1

theorem k_newZ (hexec : p.tables.exec = Jvm.exec) (hb : c.code = cc) (hts : ∀ w ∈ TT, w.before args s = true) (hK : va_K D vwCl (kTy cI cZ cJ) s) (hP : va_P D vwCl ws H) (hD : va_D A ws) (hS : va_S A H0 H locs) (hA : ∀ q, H0.size ≤ q → A q) (N : Nat) (hN : N ≤ 1000) (c2 s2 : Nat) (ec : cells + 1 = c2) (es : slots + N = s2) (hcells : c2 ≤ R.cells) (hslots : s2 ≤ R.slots) (hdg : decode cc pc = .ok (.newarray .boolean, 2))
    (kk : ∀ (q : Nat) (H1 : Heap), va_P D vwCl (ws ++ [(q, .inl (cZ, N, .inl (fun _ => 0)))]) H1 → va_D A (ws ++ [(q, .inl (cZ, N, .inl (fun _ => 0)))]) → va_S A H0 H1 locs → W p l e R s m args below meth c H1 locs c2 s2 Q (F0 m (pc + 2) ls (.ref q :: rest))) : W p l e R s m args below meth c H locs cells slots Q (F0 m pc ls (.int (nI N) :: rest)) := by
  subst ec es
  refine va_newa (atype := .boolean) (ty := .boolean) (N' := N) (a0 := (N, .inl (fun _ => 0))) hexec hb (hts (.arrayClass .boolean) tw_169) rfl hK hP hD hS hA (fun _ => rfl) (nI_nn (by omega)) (nI_clamp (by omega)) (by show N * _ ≤ 536870912; exact Nat.le_trans (Nat.mul_le_mul hN (Nat.le_refl _)) (by decide)) hcells hslots hdg (fun q cA H1 hK1 hP1 hD1 hS1 => ?_)
  have e : cA = cZ := Option.some.inj (((hK1.2 3 _ rfl).2 : s.vm.findClass _ = some _).symm.trans ((hK.2 1 _ rfl).2 : s.vm.findClass _ = some _))
  subst e
  exact kk q H1 hP1 hD1 hS1

theorem k_newJ (hexec : p.tables.exec = Jvm.exec) (hb : c.code = cc) (hts : ∀ w ∈ TT, w.before args s = true) (hK : va_K D vwCl (kTy cI cZ cJ) s) (hP : va_P D vwCl ws H) (hD : va_D A ws) (hS : va_S A H0 H locs) (hA : ∀ q, H0.size ≤ q → A q) (N : Nat) (hN : N ≤ 1000) (c2 s2 : Nat) (ec : cells + 1 = c2) (es : slots + N = s2) (hcells : c2 ≤ R.cells) (hslots : s2 ≤ R.slots) (hdg : decode cc pc = .ok (.newarray .long, 2))
    (kk : ∀ (q : Nat) (H1 : Heap), va_P D vwCl (ws ++ [(q, .inl (cJ, N, .inr (.inl (fun _ => 0))))]) H1 → va_D A (ws ++ [(q, .inl (cJ, N, .inr (.inl (fun _ => 0))))]) → va_S A H0 H1 locs → W p l e R s m args below meth c H1 locs c2 s2 Q (F0 m (pc + 2) ls (.ref q :: rest))) : W p l e R s m args below meth c H locs cells slots Q (F0 m pc ls (.int (nI N) :: rest)) := by
  subst ec es
  refine va_newa (atype := .long) (ty := .long) (N' := N) (a0 := (N, .inr (.inl (fun _ => 0)))) hexec hb (hts (.arrayClass .long) tw_228) rfl hK hP hD hS hA (fun _ => rfl) (nI_nn (by omega)) (nI_clamp (by omega)) (by show N * _ ≤ 536870912; exact Nat.le_trans (Nat.mul_le_mul hN (Nat.le_refl _)) (by decide)) hcells hslots hdg (fun q cA H1 hK1 hP1 hD1 hS1 => ?_)
  have e : cA = cJ := Option.some.inj (((hK1.2 3 _ rfl).2 : s.vm.findClass _ = some _).symm.trans ((hK.2 2 _ rfl).2 : s.vm.findClass _ = some _))
  subst e
  exact kk q H1 hP1 hD1 hS1

end KN
/-- how a constructor begins and ends -/
def kPc (D : va_G) (cI cZ cJ : ClassId) (sz h0 ci : Nat) (fs : List Value) : Array Value → State → Prop := va_Pc [.ref h0] (fun U => U.heap.size = sz ∧ va_P D vwCl [(h0, .inr (ci, fs))] U.heap ∧ va_K D vwCl (kTy cI cZ cJ) U ∧ va_AOA .int U ∧ va_D (fun _ => True) [(h0, .inr (ci, fs))])
def kQ0 (D : va_G) (A : Nat → Prop) (W : (Nat → Nat) → va_W) : Array Value → State → Outcome → State → Prop := va_Qv (fun _ : Unit => True) (fun _ t => ∃ r : Nat → Nat, va_P D vwCl (W r) t.heap ∧ va_D A (W r)) A
def kQ1 (D : va_G) (A : Nat → Prop) (W : (Nat → Nat) → ClassId → va_W) : Array Value → State → Outcome → State → Prop := va_Qv (fun _ : Unit => True) (fun _ t => ∃ (r : Nat → Nat) (cQ : ClassId), va_P D vwCl (W r cQ) t.heap ∧ va_K D vwCl [(cQ, .array .int)] t ∧ va_D A (W r cQ)) A
theorem kPc_blind {D : va_G} {cI cZ cJ : ClassId} {sz h0 ci : Nat} {fs : List Value} : FrameBlind (kPc D cI cZ cJ sz h0 ci fs) := fun a U g mk q => by
  obtain ⟨q0, q1, qP, qK, qO, qD⟩ := q
  exact ⟨q0, q1, qP, va_K.moved (u := U) (U := U.calling g mk a) (Vm.Alike.refl U.vm) qK, va_AOA.moved (u := U) (U := U.calling g mk a) (Vm.Alike.refl U.vm) qO, qD⟩
/-- the last thing of a world alone, and back among the others -/
theorem k_lastP {D : va_G} {ws : va_W} {x : Nat × va_E} {H : Heap} (h : va_P D vwCl (ws ++ [x]) H) : va_P D vwCl [x] H := fun k q hk => by
  have h0 : k < 1 := (List.getElem?_eq_some_iff.mp hk).1
  rw [show k = 0 by omega] at hk
  cases hk
  exact h ws.length _ (by rw [List.getElem?_append_right (Nat.le_refl _), Nat.sub_self]; rfl)
theorem k_lastD {A : Nat → Prop} {ws : va_W} {x : Nat × va_E} (h : va_D A (ws ++ [x])) : va_D (fun _ => True) [x] := ⟨fun i j p q hi hj _ => by
  have h1 : i < 1 := (List.getElem?_eq_some_iff.mp hi).1
  have h2 : j < 1 := (List.getElem?_eq_some_iff.mp hj).1
  omega, fun _ _ _ => trivial⟩
theorem k_free {A : Nat → Prop} {ws : va_W} {x : Nat × va_E} {H0 H : Heap} {locs : List Loc} (hD : va_D A (ws ++ [x])) (hS : va_S A H0 H locs) (hA : ∀ q, H0.size ≤ q → A q) : ∀ q, va_A [x] H.size q → A q := fun q hq => by
  rcases hq with ⟨k, e, hk⟩ | hq
  · have h0 : k < 1 := (List.getElem?_eq_some_iff.mp hk).1
    rw [show k = 0 by omega] at hk
    cases hk
    exact hD.2 ws.length _ (by rw [List.getElem?_append_right (Nat.le_refl _), Nat.sub_self]; rfl)
  · exact hA q (Nat.le_trans hS.1 hq)
theorem k_mapA {α : Type} (a b : List α) : (List.range a.length).map (fun i => (a ++ b)[i]?) = a.map some := by
  apply List.ext_getElem?
  intro i
  rw [List.getElem?_map, List.getElem?_map]
  by_cases h : i < a.length
  · rw [List.getElem?_range h, Option.map_some, List.getElem?_append_left h, List.getElem?_eq_getElem h]
    rfl
  · rw [List.getElem?_eq_none (by rw [List.length_range]; omega), List.getElem?_eq_none (by omega)]
    rfl
theorem k_nd (n : Nat) : va_nd (List.range n) = true := by
  have key : ∀ l : List Nat, l.Nodup → va_nd l = true := by
    intro l
    induction l with
    | nil => intro _; rfl
    | cons a t ih =>
      intro h
      obtain ⟨h1, h2⟩ := List.nodup_cons.mp h
      unfold va_nd
      simp [h1, ih h2]
  exact key _ List.nodup_range
theorem k_join {D : va_G} {A : Nat → Prop} {ws w1 : va_W} {x : Nat × va_E} {H H1 : Heap} (hP : va_P D vwCl (ws ++ [x]) H) (hD : va_D A (ws ++ [x])) (hk : ∀ q : Nat, q < H.size → ¬ va_A [x] H.size q → H1[q]? = H[q]?) (hF : ∀ q, va_A [x] H.size q → A q) (hP1 : va_P D vwCl w1 H1) (hD1 : va_D (va_A [x] H.size) w1) : va_P D vwCl (ws ++ w1) H1 ∧ va_D A (ws ++ w1) := by
  refine va_join (wr := ws) (w1 := w1) hP hD [ws.length] (List.range ws.length) ?_ (k_mapA ws [x]) (k_nd _) ?_ hk hF hP1 hD1
  · show [(ws ++ [x])[ws.length]?] = [some x]
    rw [List.getElem?_append_right (Nat.le_refl _), Nat.sub_self]
    rfl
  · intro i hi hc
    have h1 := List.mem_range.mp hi
    have h2 := List.mem_singleton.mp hc
    omega
