/-! the same over states that differ in the scratch rows alone -/
def eqy (I G : wI) : Prop := ∀ a, (a < 24 ∨ (28 < a ∧ a < 47)) → G a = I a
theorem eqy_x {I G : wI} (h : eqx I G) : eqy I G := fun a ha => h a (by omega)
theorem eqy_tr {I G K : wI} (h : eqy I G) (h2 : eqy G K) : eqy I K := fun a ha => (h2 a ha).trans (h a ha)
theorem eqy_u (I : wI) {k : Nat} {f : Nat → Int32} (h : (24 ≤ k ∧ k ≤ 28) ∨ 47 ≤ k) : eqy I (uI I k f) := fun a ha => uI_n (by omega)
theorem wfC_y {I I2 : wI} {nr n ns : Nat} (h : wfC I nr n ns) (e : eqy I I2) : wfC I2 nr n ns := by
  obtain ⟨h1, h2, h3, h4, h5, h6, h7⟩ := h
  refine ⟨⟨h1.1, fun r hr => by rw [e 8 (by omega), e 9 (by omega)]; exact h1.2 r hr⟩, fun r hr => by rw [e 11 (by omega)]; exact h2 r hr, h3, h4, fun p hp => by rw [e 23 (by omega)]; exact h5 p hp, fun r hr => by rw [e 19 (by omega), e 20 (by omega)]; exact h6 r hr, fun p hp => by rw [e 14 (by omega)]; exact h7 p hp⟩
theorem fi_cg {c d : Nat → Bool} : ∀ (k i : Nat), (∀ q, i ≤ q → q < i + k → c q = d q) → fi c k i = fi d k i
  | 0, _, _ => rfl
  | k + 1, i, h => by
    have e := h i (Nat.le_refl _) (by omega)
    by_cases q : c i = true
    · rw [fi_s q, fi_s (by rw [← e]; exact q)]
    · have q2 : c i = false := by cases z : c i with | false => rfl | true => exact absurd z q
      rw [fi_n q2, fi_n (by rw [← e]; exact q2)]
      exact fi_cg k (i + 1) (fun q h1 h2 => h q (by omega) (by omega))
theorem oE_x {I G : wI} (h : eqy I G) (r : Nat) (x : Int32) : oE G r x = oE I r x := by
  unfold oE
  rw [h 8 (by omega), h 9 (by omega)]
theorem rT_x {I G : wI} {n a g : Nat} (h : eqy I G) (hw : wfR I n) (ha : a < 12) : rT G n a g = rT I n a g := by
  refine fi_cg n 0 fun r _ hr => ?_
  unfold rc
  rw [oE_x h]
  by_cases q : oE I r (nI a) = -1
  · rw [decide_eq_false (fun z => z q)]; rfl
  · have h1 : (oE I r (nI a)).toNatClampNeg < 12 := (oE_nI hw (by omega) q).1
    rw [h 10 (by omega), h (35 + a) (by omega), h (35 + (oE I r (nI a)).toNatClampNeg) (by omega)]
theorem cf_x {I G : wI} (h : eqy I G) (len : Int32) (kind : Nat) (m : Int32) : cf G len kind m = cf I len kind m := by
  unfold cf
  rw [h 12 (by omega), h 13 (by omega)]
theorem ec_x {I G : wI} (h : eqy I G) (p m : Int32) : ec G p m = ec I p m := funext fun k => by
  unfold ec
  rw [h 16 (by omega), h 17 (by omega), h 18 (by omega)]
/-- the tariff and the lengths are in their ranges -/
def wT (I : wI) (nr : Nat) : Prop := (∀ r, r < nr → ∃ a, a ≤ 50 ∧ I 10 r = nI a) ∧ ∀ k, k < 3 → (∃ a, a ≤ 100 ∧ I 12 k = nI a) ∧ ∃ a, a ≤ 300 ∧ I 13 k = nI a
theorem cf_n {I : wI} {nr r kind : Nat} {m : Int32} (h : wT I nr) (hr : r < nr) (hk : kind < 3) : ∃ c, c ≤ 15000 ∧ cf I (I 10 r) kind m = nI c ∧ (I 10 r).toInt64 * (I 12 kind).toInt64 * (if bz m = true then I 13 kind else nI 100).toInt64 / 100 = lN c := by
  obtain ⟨a, ha, ea⟩ := h.1 r hr
  obtain ⟨⟨b, hb, eb⟩, ⟨c, hc, ec⟩⟩ := h.2 kind hk
  have hd : ∃ d, d ≤ 300 ∧ (if bz m = true then I 13 kind else nI 100) = nI d := by
    split
    · exact ⟨c, hc, ec⟩
    · exact ⟨100, by omega, rfl⟩
  obtain ⟨d, hd, ed⟩ := hd
  have h1 : a * b ≤ 50 * 100 := Nat.mul_le_mul ha hb
  have h2 : a * b * d ≤ 50 * 100 * 300 := Nat.mul_le_mul h1 hd
  refine ⟨a * b * d / 100, by omega, ?_, ?_⟩
  · unfold cf
    rw [ed, ea, eb, pk_mul, pk_mul, pk_div (by omega) (by omega) (by omega)]
  · rw [ed, ea, eb, nI_l (by omega), nI_l (by omega), nI_l (by omega), lN_mul, lN_mul, show (100 : Int64) = lN 100 from rfl, pk_lDiv (by omega) (by omega) (by omega)]
/-! the reading that comes next, by the model -/
def canR (I : wI) (p r : Nat) : Prop := I 20 r = nI p ∧ I 22 r = 0 ∧ I 73 r = 0
def nxR (I : wI) (n p k : Nat) (x : Int32) : Prop := (x = -1 ∧ ∀ r, k ≤ r → r < n → ¬ canR I p r) ∨ ∃ f, x = nI f ∧ k ≤ f ∧ f < n ∧ canR I p f ∧ ∀ r, k ≤ r → r < n → canR I p r → I 21 f < I 21 r ∨ (I 21 f = I 21 r ∧ f ≤ r)
theorem nxR_z (I : wI) (n p : Nat) : nxR I n p n (-1) := Or.inl ⟨rfl, fun r h1 h2 => by omega⟩
theorem nxR_n {I : wI} {n p j : Nat} {x : Int32} (hc : ¬ canR I p j) (h : nxR I n p (j + 1) x) : nxR I n p j x := by
  rcases h with ⟨h1, h2⟩ | ⟨f, h1, h2, h3, h4, h5⟩
  · refine Or.inl ⟨h1, fun r a b q => ?_⟩
    rcases Nat.lt_or_ge j r with z | z
    · exact h2 r z b q
    · exact hc (by rw [show j = r by omega]; exact q)
  · refine Or.inr ⟨f, h1, by omega, h3, h4, fun r a b q => ?_⟩
    rcases Nat.lt_or_ge j r with z | z
    · exact h5 r z b q
    · exact absurd (by rw [show j = r by omega]; exact q) hc
theorem nxR_0 {I : wI} {n p j : Nat} {x : Int32} (hj : j < n) (hn : n ≤ 100) (hc : canR I p j) (h : nxR I n p (j + 1) x) (hx : x = -1) : nxR I n p j (nI j) := by
  rcases h with ⟨h1, h2⟩ | ⟨f, h1, h2, h3, h4, h5⟩
  · refine Or.inr ⟨j, rfl, Nat.le_refl _, hj, hc, fun r a b q => ?_⟩
    rcases Nat.lt_or_ge j r with z | z
    · exact absurd q (h2 r z b)
    · rw [show r = j by omega]
      exact Or.inr ⟨rfl, Nat.le_refl _⟩
  · rw [h1] at hx
    exact absurd hx (nI_m1 (by omega))
theorem nxR_f {I : wI} {n p j f : Nat} {x : Int32} (hn : n ≤ 100) (h : nxR I n p (j + 1) x) (ex : x = nI f) (hf : f < n) : j + 1 ≤ f ∧ canR I p f ∧ ∀ r, j + 1 ≤ r → r < n → canR I p r → I 21 f < I 21 r ∨ (I 21 f = I 21 r ∧ f ≤ r) := by
  rcases h with ⟨h1, h2⟩ | ⟨g, h1, h2, h3, h4, h5⟩
  · rw [ex] at h1
    exact absurd h1 (nI_m1 (by omega))
  · have e : f = g := (nI_eq (by omega) (by omega)).mp (ex.symm.trans h1)
    subst e
    exact ⟨h2, h4, h5⟩
theorem nxR_k {I : wI} {n p j f : Nat} {x : Int32} (hn : n ≤ 100) (h : nxR I n p (j + 1) x) (ex : x = nI f) (hf : f < n) (hl : I 21 f < I 21 j) : nxR I n p j x := by
  obtain ⟨h2, h4, h5⟩ := nxR_f hn h ex hf
  refine Or.inr ⟨f, ex, by omega, hf, h4, fun r a b q => ?_⟩
  rcases Nat.lt_or_ge j r with z | z
  · exact h5 r z b q
  · rw [show r = j by omega]; exact Or.inl hl
theorem nxR_y {I : wI} {n p j f : Nat} {x : Int32} (hj : j < n) (hn : n ≤ 100) (hc : canR I p j) (h : nxR I n p (j + 1) x) (ex : x = nI f) (hf : f < n) (hl : ¬ I 21 f < I 21 j) : nxR I n p j (nI j) := by
  obtain ⟨h2, h4, h5⟩ := nxR_f hn h ex hf
  refine Or.inr ⟨j, rfl, Nat.le_refl _, hj, hc, fun r a b q => ?_⟩
  rcases Nat.lt_or_ge j r with z | z
  · have h6 := Int32.le_iff_toInt_le.mp (Int32.not_lt.mp hl)
    rw [Int32.lt_iff_toInt_lt, ← Int32.toInt_inj]
    rcases h5 r z b q with y | ⟨y, -⟩
    · have := Int32.lt_iff_toInt_lt.mp y
      omega
    · rw [y] at h6
      omega
  · rw [show r = j by omega]; exact Or.inr ⟨rfl, Nat.le_refl _⟩
/-! what is to be paid: the class's ints, the model's longs -/
theorem uJ_uJ (J : wJ) (a : Nat) (f g : Nat → Int64) : uJ (uJ J a f) a g = uJ J a g := funext fun b => by
  unfold uJ
  by_cases h : b = a
  · rw [if_pos h, if_pos h]
  · rw [if_neg h, if_neg h, if_neg h]
theorem uJ_self (J : wJ) (a : Nat) : uJ J a (J a) = J := funext fun b => by
  unfold uJ
  by_cases h : b = a
  · rw [if_pos h, h]
  · rw [if_neg h]
theorem pwL_s {I G : wI} {nr kind goal j k at9 : Nat} {m : Int32} (h : eqy I G) (hw : wfR I nr) (ha : at9 < 12) (hrt : ¬ rT I nr at9 goal = -1) : pwL nr kind m goal j (k + 1) (nI at9) G = pwL nr kind m goal j k (oE I (tn (rT I nr at9 goal)) (nI at9)) (sI G (47 + tn (I 11 (tn (rT I nr at9 goal)))) j (G (47 + tn (I 11 (tn (rT I nr at9 goal)))) j + cf I (I 10 (tn (rT I nr at9 goal))) kind m)) := by
  have hcl : tn (nI at9) = at9 := nI_clamp (by omega)
  show (if rT G nr (tn (nI at9)) goal = -1 then G else pwL nr kind m goal j k (oE G (tn (rT G nr (tn (nI at9)) goal)) (nI at9)) (sI G (47 + tn (G 11 (tn (rT G nr (tn (nI at9)) goal)))) j (G (47 + tn (G 11 (tn (rT G nr (tn (nI at9)) goal)))) j + cf G (G 10 (tn (rT G nr (tn (nI at9)) goal))) kind m))) = _
  rw [hcl, rT_x h hw ha, if_neg hrt, oE_x h, cf_x h, h 11 (by omega), h 10 (by omega)]
theorem pwL_e {I G : wI} {nr kind goal j at9 : Nat} {m : Int32} (h : eqy I G) (hw : wfR I nr) (ha : at9 < 12) (hrt : rT I nr at9 goal = -1) : ∀ k, pwL nr kind m goal j k (nI at9) G = G
  | 0 => rfl
  | k + 1 => by
    have hcl : tn (nI at9) = at9 := nI_clamp (by omega)
    show (if rT G nr (tn (nI at9)) goal = -1 then G else _) = G
    rw [hcl, rT_x h hw ha, if_pos hrt]
theorem tn_nI {n : Nat} (h : n < 2 ^ 31) : tn (nI n) = n := nI_clamp h
def pR (G : wI) (j : Nat) (f : Nat → Int64) (B : Nat) : Prop := ∀ o, o < 4 → tn (G (47 + o) j) ≤ B ∧ G (47 + o) j = nI (tn (G (47 + o) j)) ∧ f (4 * j + o) = lN (tn (G (47 + o) j))
theorem pR_le {G : wI} {j B C : Nat} {f : Nat → Int64} (h : pR G j f B) (hB : B ≤ C) : pR G j f C := fun o ho => ⟨Nat.le_trans (h o ho).1 hB, (h o ho).2⟩
theorem pR_s {G : wI} {j B c o : Nat} {f : Nat → Int64} {x : Int32} (h : pR G j f B) (hB : B ≤ 1000000000) (ho : o < 4) (hx : x = nI c) (hc : c ≤ 15000) : pR (sI G (47 + o) j (G (47 + o) j + x)) j (vp_updL f (4 * j + o) (lN (tn (G (47 + o) j) + c))) (B + 15000) := by
  obtain ⟨h1, h2, h3⟩ := h o ho
  have e : G (47 + o) j + x = nI (tn (G (47 + o) j) + c) := by rw [hx, ← nI_add, ← h2]
  have et : tn (G (47 + o) j + x) = tn (G (47 + o) j) + c := by rw [e]; exact nI_clamp (by omega)
  intro q hq
  by_cases z : q = o
  · subst z
    rw [show sI G (47 + q) j (G (47 + q) j + x) (47 + q) j = G (47 + q) j + x from (congrFun uI_s j).trans pk_us, et, e]
    exact ⟨by omega, rfl, pk_uLs⟩
  · rw [show sI G (47 + o) j (G (47 + o) j + x) (47 + q) j = G (47 + q) j from congrFun (uI_n (by omega)) j, pk_uLn (by omega)]
    obtain ⟨k1, k2, k3⟩ := h q hq
    exact ⟨by omega, k2, k3⟩
/-! fares and shares -/
def mb (G : wI) (j : Nat) : Nat → Nat
  | 0 => 0
  | o + 1 => if tn (G (47 + mb G j o) j) < tn (G (47 + o) j) then o else mb G j o
theorem mb_le (G : wI) (j : Nat) : ∀ o, mb G j o ≤ o
  | 0 => Nat.le_refl _
  | o + 1 => by
    have := mb_le G j o
    unfold mb
    split <;> omega
theorem mb_lt (G : wI) (j : Nat) : ∀ o, mb G j (o + 1) ≤ o
  | 0 => by
    show (if _ then 0 else mb G j 0) ≤ 0
    split
    · exact Nat.le_refl _
    · exact Nat.le_refl _
  | o + 1 => by
    have := mb_lt G j o
    rw [show mb G j (o + 1 + 1) = (if tn (G (47 + mb G j (o + 1)) j) < tn (G (47 + (o + 1)) j) then o + 1 else mb G j (o + 1)) from rfl]
    split
    · exact Nat.le_refl _
    · exact Nat.le_succ_of_le this
def ws (G : wI) (j : Nat) : Nat → Nat
  | 0 => 0
  | o + 1 => ws G j o + tn (G (47 + o) j)
def fF (G : wI) (j M : Nat) : Nat := if M < ws G j 4 then M else ws G j 4
def s1 (G : wI) (j M o : Nat) : Nat := if M < ws G j 4 then tn (G (47 + o) j) * M / ws G j 4 else tn (G (47 + o) j)
def lfL (G : wI) (j M : Nat) : Nat → Int64
  | 0 => lN (fF G j M)
  | o + 1 => lfL G j M o - lN (s1 G j M o)
theorem ws_le {G : wI} {j B : Nat} {f : Nat → Int64} (h : pR G j f B) : ws G j 4 ≤ 4 * B := by
  have h0 := (h 0 (by omega)).1
  have h1 := (h 1 (by omega)).1
  have h2 := (h 2 (by omega)).1
  have h3 := (h 3 (by omega)).1
  show 0 + tn (G (47 + 0) j) + tn (G (47 + 1) j) + tn (G (47 + 2) j) + tn (G (47 + 3) j) ≤ 4 * B
  omega
theorem ws_ge (G : wI) (j o : Nat) (ho : o < 4) : tn (G (47 + o) j) ≤ ws G j 4 := by
  show _ ≤ 0 + tn (G (47 + 0) j) + tn (G (47 + 1) j) + tn (G (47 + 2) j) + tn (G (47 + 3) j)
  rcases (show o = 0 ∨ o = 1 ∨ o = 2 ∨ o = 3 by omega) with rfl | rfl | rfl | rfl <;> omega
theorem wh_n {G : wI} {j B : Nat} {f : Nat → Int64} (h : pR G j f B) : wh G j = nI (ws G j 4) := by
  have h0 := (h 0 (by omega)).2.1
  have h1 := (h 1 (by omega)).2.1
  have h2 := (h 2 (by omega)).2.1
  have h3 := (h 3 (by omega)).2.1
  unfold wh
  rw [h0, h1, h2, h3, nI_add, nI_add, nI_add, nI_add]
  rfl
theorem fr_n {G : wI} {j B M : Nat} {f : Nat → Int64} (h : pR G j f B) (hB : B ≤ 100000000) (hM : M ≤ 100000) : fr G j (nI M) = nI (fF G j M) := by
  have := ws_le h
  unfold fr fF
  rw [wh_n h]
  by_cases q : M < ws G j 4
  · rw [if_pos q, if_pos ((nI_ltI (by omega) (by omega)).mpr q)]
  · rw [if_neg q, if_neg (fun z => q ((nI_ltI (by omega) (by omega)).mp z))]
theorem bO_n {G : wI} {j B : Nat} {f : Nat → Int64} (h : pR G j f B) (hB : B ≤ 100000000) : ∀ k, k < 4 → bO G j k = mb G j (k + 1)
  | 0, _ => by
    show 0 = (if tn (G (47 + 0) j) < tn (G (47 + 0) j) then 0 else 0)
    split <;> rfl
  | k + 1, hk => by
    have e := bO_n h hB k (by omega)
    have hb := bO_le G j k
    obtain ⟨a1, a2, -⟩ := h (k + 1) hk
    obtain ⟨b1, b2, -⟩ := h (bO G j k) (by omega)
    show (if G (47 + (k + 1)) j ≤ G (47 + bO G j k) j then bO G j k else k + 1) = (if tn (G (47 + mb G j (k + 1)) j) < tn (G (47 + (k + 1)) j) then k + 1 else mb G j (k + 1))
    rw [← e]
    by_cases q : tn (G (47 + bO G j k) j) < tn (G (47 + (k + 1)) j)
    · rw [if_pos q, if_neg (fun z => by
        rw [a2, b2] at z
        have := (nI_leI (by omega) (by omega)).mp z
        omega)]
    · rw [if_neg q, if_pos (by
        rw [a2, b2]
        exact (nI_leI (by omega) (by omega)).mpr (by omega))]
theorem cs_n {G : wI} {j B M o : Nat} {f : Nat → Int64} (h : pR G j f B) (hB : B ≤ 100000000) (hM : M ≤ 100000) (ho : o < 4) (hw : M < ws G j 4) : cs G j o (nI M) (nI (ws G j 4)) = nI (tn (G (47 + o) j) * M / ws G j 4) := by
  have h1 := ws_le h
  have h2 := ws_ge G j o ho
  have h3 : tn (G (47 + o) j) * M ≤ 400000000 * 100000 := Nat.mul_le_mul (by omega) hM
  unfold cs
  rw [if_pos (by rw [← nI_0]; exact (nI_ltI (by omega) (by omega)).mpr (by omega)), (h o ho).2.1, nI_l (by omega), nI_l (by omega), nI_l (by omega), lN_mul, pk_lDiv (by omega) (by omega) (by omega), lN_i, tn_nI (by omega)]
theorem s1_le {G : wI} {j M o : Nat} (ho : o < 4) (hw : M < ws G j 4) : tn (G (47 + o) j) * M / ws G j 4 ≤ M := by
  have h2 := ws_ge G j o ho
  rw [Nat.div_le_iff_le_mul_add_pred (by omega)]
  have := Nat.mul_le_mul_right M h2
  omega
theorem i32_sub {x y : Int32} {a b : Int} (hx : x.toInt = a) (hy : y.toInt = b) (h1 : -1000000000 ≤ a ∧ a ≤ 1000000000) (h2 : -1000000000 ≤ b ∧ b ≤ 1000000000) : (x - y).toInt = a - b := by
  rw [Int32.toInt_sub, hx, hy, Int.bmod_def]
  split <;> omega
theorem i64_sub {x y : Int64} {a b : Int} (hx : x.toInt = a) (hy : y.toInt = b) (h1 : -1000000000000 ≤ a ∧ a ≤ 1000000000000) (h2 : -1000000000000 ≤ b ∧ b ≤ 1000000000000) : (x - y).toInt = a - b := by
  rw [Int64.toInt_sub, hx, hy, Int.bmod_def]
  split <;> omega
theorem i64_add {x y : Int64} {a b : Int} (hx : x.toInt = a) (hy : y.toInt = b) (h1 : -1000000000000 ≤ a ∧ a ≤ 1000000000000) (h2 : -1000000000000 ≤ b ∧ b ≤ 1000000000000) : (x + y).toInt = a + b := by
  rw [Int64.toInt_add, hx, hy, Int.bmod_def]
  split <;> omega
theorem shr_n {G : wI} {j B M : Nat} {f g : Nat → Int64} (h : pR G j f B) (hB : B ≤ 100000000) (hM : M ≤ 100000) (hg : ∀ o, o < 4 → g (4 * j + o) = lN (s1 G j M o)) : ∀ o, o < 4 → vp_updL g (4 * j + mb G j 4) (lN (s1 G j M (mb G j 4)) + lfL G j M 4) (4 * j + o) = (shr G j o (nI M)).toInt64 := by
  intro o ho
  have hws := ws_le h
  have eb := bO_n h hB 3 (by omega)
  have hbl := bO_le G j 3
  rw [← eb]
  unfold shr
  rw [wh_n h]
  by_cases q : M < ws G j 4
  · rw [if_pos ((nI_ltI (by omega) (by omega)).mpr q)]
    have ec : ∀ a, a < 4 → cs G j a (nI M) (nI (ws G j 4)) = nI (s1 G j M a) ∧ s1 G j M a ≤ M := by
      intro a ha
      have e : s1 G j M a = tn (G (47 + a) j) * M / ws G j 4 := if_pos q
      rw [cs_n h hB hM ha q, e]
      exact ⟨rfl, s1_le ha q⟩
    have c0 := ec 0 (by omega)
    have c1 := ec 1 (by omega)
    have c2 := ec 2 (by omega)
    have c3 := ec 3 (by omega)
    by_cases z : o = bO G j 3
    · rw [if_pos z, ← z, pk_uLs]
      apply Int64.toInt_inj.mp
      rw [Int32.toInt_toInt64]
      have eF : fF G j M = M := if_pos q
      have eL : (lfL G j M 4).toInt = (M : Int) - s1 G j M 0 - s1 G j M 1 - s1 G j M 2 - s1 G j M 3 := by
        show (lN (fF G j M) - lN (s1 G j M 0) - lN (s1 G j M 1) - lN (s1 G j M 2) - lN (s1 G j M 3)).toInt = _
        rw [eF]
        exact i64_sub (i64_sub (i64_sub (i64_sub (lN_toInt (by omega)) (lN_toInt (by omega)) (by omega) (by omega)) (lN_toInt (by omega)) (by omega) (by omega)) (lN_toInt (by omega)) (by omega) (by omega)) (lN_toInt (by omega)) (by omega) (by omega)
      have co := ec o ho
      rw [i64_add (lN_toInt (by omega)) eL (by omega) (by omega)]
      have st : ∀ k x, k < 4 → (lf G j o (nI M) (nI (ws G j 4)) k).toInt = x → -1000000 ≤ x ∧ x ≤ 1000000 → (lf G j o (nI M) (nI (ws G j 4)) (k + 1)).toInt = if k = o then x else x - s1 G j M k := by
        intro k x hk hx hb
        show (if k = o then lf G j o (nI M) (nI (ws G j 4)) k else lf G j o (nI M) (nI (ws G j 4)) k - cs G j k (nI M) (nI (ws G j 4))).toInt = _
        have ck := ec k hk
        split
        · exact hx
        · exact i32_sub hx (by rw [ck.1]; exact nI_toInt (by omega)) (by omega) (by omega)
      have l0 : (lf G j o (nI M) (nI (ws G j 4)) 0).toInt = (M : Int) := nI_toInt (by omega)
      have l1 := st 0 _ (by omega) l0 (by omega)
      have l2 := st 1 _ (by omega) l1 (by split <;> omega)
      have l3 := st 2 _ (by omega) l2 (by split <;> split <;> omega)
      have l4 := st 3 _ (by omega) l3 (by split <;> split <;> split <;> omega)
      rw [l4]
      rcases (show o = 0 ∨ o = 1 ∨ o = 2 ∨ o = 3 by omega) with e | e | e | e <;> rw [e] <;> simp <;> omega
    · rw [if_neg z, pk_uLn (by omega), hg o ho, (ec o ho).1, nI_l (by have := (ec o ho).2; omega)]
  · rw [if_neg (fun z => q ((nI_ltI (by omega) (by omega)).mp z))]
    have es : ∀ a, s1 G j M a = tn (G (47 + a) j) := fun a => if_neg q
    have eF : fF G j M = ws G j 4 := if_neg q
    by_cases z : o = bO G j 3
    · rw [← z, pk_uLs]
      apply Int64.toInt_inj.mp
      have h0 := (h 0 (by omega)).1
      have h1 := (h 1 (by omega)).1
      have h2 := (h 2 (by omega)).1
      have h3 := (h 3 (by omega)).1
      have ho1 := (h o ho).1
      have ew : ws G j 4 = 0 + tn (G (47 + 0) j) + tn (G (47 + 1) j) + tn (G (47 + 2) j) + tn (G (47 + 3) j) := rfl
      have eL : (lfL G j M 4).toInt = (ws G j 4 : Int) - tn (G (47 + 0) j) - tn (G (47 + 1) j) - tn (G (47 + 2) j) - tn (G (47 + 3) j) := by
        show (lN (fF G j M) - lN (s1 G j M 0) - lN (s1 G j M 1) - lN (s1 G j M 2) - lN (s1 G j M 3)).toInt = _
        rw [eF, es, es, es, es]
        exact i64_sub (i64_sub (i64_sub (i64_sub (lN_toInt (by omega)) (lN_toInt (by omega)) (by omega) (by omega)) (lN_toInt (by omega)) (by omega) (by omega)) (lN_toInt (by omega)) (by omega) (by omega)) (lN_toInt (by omega)) (by omega) (by omega)
      rw [i64_add (lN_toInt (by rw [es]; omega)) eL (by rw [es]; omega) (by omega), es, Int32.toInt_toInt64, (h o ho).2.1, nI_toInt (by omega), tn_nI (by omega)]
      omega
    · rw [pk_uLn (by omega), hg o ho, es]
      have ho1 := (h o ho).1
      conv => rhs; rw [(h o ho).2.1]
      rw [nI_l (by omega)]
