/-! the model's walk through the readings, beside the class's fold -/
def mt (I : wI) (plate r : Nat) : Prop := I 20 r = nI plate ∧ I 22 r = 0
def lexl (I : wI) (r s : Nat) : Prop := I 21 r < I 21 s ∨ (I 21 r = I 21 s ∧ r < s)
/-- the order is the readings' order by minute and number -/
def wS (I : wI) (n : Nat) : Prop := (∀ q, q < n → tn (I 23 q) < n ∧ I 23 q = nI (tn (I 23 q))) ∧ (∀ r, r < n → ∃ q, q < n ∧ tn (I 23 q) = r) ∧ ∀ q s, q < s → s < n → lexl I (tn (I 23 q)) (tn (I 23 s))
theorem lexl_i {I : wI} {r s : Nat} (h1 : lexl I r s) (h2 : I 21 s < I 21 r ∨ (I 21 s = I 21 r ∧ s ≤ r)) : False := by
  unfold lexl at h1
  rw [Int32.lt_iff_toInt_lt, ← Int32.toInt_inj] at h1 h2
  omega
theorem wS_inj {I : wI} {n q s : Nat} (h : wS I n) (hq : q < n) (hs : s < n) (e : tn (I 23 q) = tn (I 23 s)) : q = s := by
  rcases Nat.lt_trichotomy q s with z | z | z
  · have := h.2.2 q s z hs
    rw [e] at this
    exact absurd (lexl_i this (Or.inr ⟨rfl, Nat.le_refl _⟩)) id
  · exact z
  · have := h.2.2 s q z hq
    rw [e] at this
    exact absurd (lexl_i this (Or.inr ⟨rfl, Nat.le_refl _⟩)) id
theorem fj_eqy {nr n ns plate : Nat} {I G0 : wI} (hx : eqy I G0) (hw : wfC I nr n ns) {p : Nat} (hp : p ≤ n) : eqy I (fj nr ns plate G0 p).2.2 := eqy_tr hx (eqy_x (fj_ok (wfC_y hw hx) p hp).2.1)
theorem fj_miss {nr n ns plate : Nat} {I G0 : wI} (hx : eqy I G0) (hw : wfC I nr n ns) {p : Nat} (hp : p < n) (h : ¬ mt I plate (tn (I 23 p))) : fj nr ns plate G0 (p + 1) = fj nr ns plate G0 p := by
  have e := fj_eqy (plate := plate) hx hw (Nat.le_of_lt hp)
  show stp nr ns plate (fj nr ns plate G0 p) p = _
  unfold stp
  rw [e 20 (by omega), e 22 (by omega), e 23 (by omega)]
  exact if_neg h
theorem fj_hit {nr n ns plate : Nat} {I G0 : wI} (hx : eqy I G0) (hw : wfC I nr n ns) {p : Nat} (hp : p < n) (h : mt I plate (tn (I 23 p))) : fj nr ns plate G0 (p + 1) = plc nr ns (fj nr ns plate G0 p).1 (fj nr ns plate G0 p).2.1 (fj nr ns plate G0 p).2.2 (tn (I 23 p)) := by
  have e := fj_eqy (plate := plate) hx hw (Nat.le_of_lt hp)
  show stp nr ns plate (fj nr ns plate G0 p) p = _
  unfold stp
  rw [e 20 (by omega), e 22 (by omega), e 23 (by omega)]
  exact if_pos h
theorem fj_skip {nr n ns plate : Nat} {I G0 : wI} (hx : eqy I G0) (hw : wfC I nr n ns) {p : Nat} : ∀ d, p + d ≤ n → (∀ q, p ≤ q → q < p + d → ¬ mt I plate (tn (I 23 q))) → fj nr ns plate G0 (p + d) = fj nr ns plate G0 p
  | 0, _, _ => rfl
  | d + 1, hd, h => by
    rw [← Nat.add_assoc, fj_miss hx hw (by omega) (h (p + d) (by omega) (by omega))]
    exact fj_skip hx hw d (by omega) (fun q h1 h2 => h q h1 (by omega))
def gD (n plate : Nat) (I : wI) (p : Nat) (I9 : wI) : Prop := ∀ r, r < n → (I9 73 r = 0 ↔ ¬ ∃ q, q < p ∧ tn (I 23 q) = r ∧ mt I plate r)
def gJ (c : Nat) (I2 I9 : wI) (f : Nat → Int64) (B : Nat) : Prop := ∀ j, j < c → I9 74 j = I2 24 j ∧ I9 75 j = I2 25 j ∧ I9 76 j = I2 26 j ∧ pR I2 j f B
def gA (n plate : Nat) (I I2 I9 : wI) : Prop := ∀ r, r < n → (¬ I9 73 r = 0 → I9 71 r = I2 28 r ∧ I9 72 r = I2 27 r) ∧ (I9 73 r = 0 → I 20 r = nI plate → I9 71 r = 0 ∧ I9 72 r = -1)
def gK (I I9 : wI) : Prop := ∀ a, a < 71 ∨ 76 < a → I9 a = I a
theorem g_next {n plate p : Nat} {I I9 : wI} {x : Int32} (hS : wS I n) (hn : n ≤ 100) (hk : gK I I9) (hd : gD n plate I p I9) (h : nxR I9 n plate 0 x) (hx : ¬ x = -1) : ∃ its q, x = nI its ∧ its < n ∧ p ≤ q ∧ q < n ∧ tn (I 23 q) = its ∧ mt I plate its ∧ I9 73 its = 0 ∧ ∀ s, p ≤ s → s < q → ¬ mt I plate (tn (I 23 s)) := by
  obtain ⟨f, h1, h2, h3, h4, h5⟩ := h.resolve_left (fun z => hx z.1)
  obtain ⟨c1, c2, c3⟩ := h4
  rw [hk 20 (by omega)] at c1
  rw [hk 22 (by omega)] at c2
  obtain ⟨q, hq, eq⟩ := hS.2.1 f h3
  have hpq : p ≤ q := by
    rcases Nat.lt_or_ge q p with z | z
    · exact absurd ⟨q, z, eq, c1, c2⟩ ((hd f h3).mp c3)
    · exact z
  refine ⟨f, q, h1, h3, hpq, hq, eq, ⟨c1, c2⟩, c3, fun s hs1 hs2 hm => ?_⟩
  have hsn := (hS.1 s (by omega)).1
  have hl := hS.2.2 s q hs2 hq
  rw [eq] at hl
  refine lexl_i hl ?_
  have h6 := h5 (tn (I 23 s)) (Nat.zero_le _) hsn ⟨by rw [hk 20 (by omega)]; exact hm.1, by rw [hk 22 (by omega)]; exact hm.2, (hd _ hsn).mpr (fun ⟨t, t1, t2, t3⟩ => by
    have := wS_inj hS (show t < n by omega) (show s < n by omega) t2
    omega)⟩
  rw [hk 21 (by omega)] at h6
  exact h6
theorem g_end {n plate p : Nat} {I I9 : wI} {x : Int32} (hS : wS I n) (hn : n ≤ 100) (hk : gK I I9) (hd : gD n plate I p I9) (h : nxR I9 n plate 0 x) (hx : x = -1) : ∀ s, p ≤ s → s < n → ¬ mt I plate (tn (I 23 s)) := by
  rcases h with ⟨h1, h2⟩ | ⟨f, h1, h2, h3, -⟩
  · intro s hs1 hs2 hm
    have hsn := (hS.1 s hs2).1
    refine h2 _ (Nat.zero_le _) hsn ⟨by rw [hk 20 (by omega)]; exact hm.1, by rw [hk 22 (by omega)]; exact hm.2, (hd _ hsn).mpr (fun ⟨t, t1, t2, t3⟩ => by
      have := wS_inj hS (show t < n by omega) hs2 t2
      omega)⟩
  · rw [h1] at hx
    exact absurd hx (nI_m1 (by omega))
theorem gD_s {n plate p q its : Nat} {I I9 J9 : wI} (hd : gD n plate I p I9) (hpq : p ≤ q) (hq : q < n) (eq : tn (I 23 q) = its) (hm : mt I plate its) (hs : ∀ s, p ≤ s → s < q → ¬ mt I plate (tn (I 23 s))) (e : J9 73 = upd (I9 73) its (nI 1)) : gD n plate I (q + 1) J9 := by
  intro r hr
  rw [e]
  by_cases z : r = its
  · subst z
    rw [pk_us]
    exact ⟨fun w => absurd w (by decide), fun w => absurd ⟨q, by omega, eq, hm⟩ w⟩
  · rw [pk_un z, hd r hr]
    refine ⟨fun w ⟨t, t1, t2, t3⟩ => ?_, fun w ⟨t, t1, t2, t3⟩ => w ⟨t, by omega, t2, t3⟩⟩
    rcases Nat.lt_or_ge t p with y | y
    · exact w ⟨t, y, t2, t3⟩
    · rcases Nat.lt_or_ge t q with y2 | y2
      · exact hs t y y2 (by rw [t2]; exact t3)
      · have : t = q := by omega
        subst this
        exact z (t2.symm.trans eq)
theorem gA_s {n plate its : Nat} {I I2 K2 I9 J9 : wI} {b x : Int32} (ha : gA n plate I I2 I9) (e3 : J9 73 = upd (I9 73) its (nI 1)) (e1 : J9 71 = upd (I9 71) its b) (e2 : J9 72 = upd (I9 72) its x) (k1 : K2 28 = upd (I2 28) its b) (k2 : K2 27 = upd (I2 27) its x) : gA n plate I K2 J9 := by
  intro r hr
  rw [e3, e1, e2, k1, k2]
  by_cases z : r = its
  · subst z
    simp only [pk_us]
    exact ⟨fun _ => ⟨trivial, trivial⟩, fun w => absurd w (by decide)⟩
  · rw [pk_un z, pk_un z, pk_un z, pk_un z, pk_un z]
    exact ha r hr
def fB (f : Nat → Int64) (c : Nat) : Nat → Int64 := vp_updL (vp_updL (vp_updL (vp_updL f (4 * c + 0) 0) (4 * c + 1) 0) (4 * c + 2) 0) (4 * c + 3) 0
def mbI (I9 : wI) (its c : Nat) (m : Int32) : wI := sI (sI (sI (sI (sI (sI (sI I9 73 its (nI 1)) 71 its (nI 0)) 74 c m) 76 c (nI 0)) 75 c m) 76 c (nI (0 + 1))) 72 its (nI c)
def mdI (I9 : wI) (its j : Nat) : wI := sI (sI (sI I9 73 its (nI 1)) 71 its (nI 1)) 72 its (nI j)
def mgI (I9 : wI) (its j : Nat) (m : Int32) : wI := sI (sI (sI (sI (sI I9 73 its (nI 1)) 71 its (nI 0)) 75 j m) 76 j (I9 76 j + nI 1)) 72 its (nI j)
theorem gK_s {I I9 : wI} {a j : Nat} {x : Int32} (h : gK I I9) (ha : 71 ≤ a ∧ a ≤ 76) : gK I (sI I9 a j x) := fun b hb => (uI_n (by omega)).trans (h b hb)
theorem gK_b {I I9 : wI} {its c : Nat} {m : Int32} (h : gK I I9) : gK I (mbI I9 its c m) := gK_s (gK_s (gK_s (gK_s (gK_s (gK_s (gK_s h (by omega)) (by omega)) (by omega)) (by omega)) (by omega)) (by omega)) (by omega)
theorem gK_d {I I9 : wI} {its j : Nat} (h : gK I I9) : gK I (mdI I9 its j) := gK_s (gK_s (gK_s h (by omega)) (by omega)) (by omega)
theorem gK_g {I I9 : wI} {its j : Nat} {m : Int32} (h : gK I I9) : gK I (mgI I9 its j m) := gK_s (gK_s (gK_s (gK_s (gK_s h (by omega)) (by omega)) (by omega)) (by omega)) (by omega)
theorem pR_b {I2 : wI} {c r : Nat} {m : Int32} {f : Nat → Int64} (B : Nat) : pR (bgI I2 c r m) c (fB f c) B := by
  intro o ho
  have e : bgI I2 c r m (47 + o) c = nI 0 := by
    rcases (show o = 0 ∨ o = 1 ∨ o = 2 ∨ o = 3 by omega) with rfl | rfl | rfl | rfl <;> exact pk_us
  have e2 : fB f c (4 * c + o) = lN 0 := by
    unfold fB
    rcases (show o = 0 ∨ o = 1 ∨ o = 2 ∨ o = 3 by omega) with rfl | rfl | rfl | rfl
    · rw [pk_uLn (by omega), pk_uLn (by omega), pk_uLn (by omega), pk_uLs]; rfl
    · rw [pk_uLn (by omega), pk_uLn (by omega), pk_uLs]; rfl
    · rw [pk_uLn (by omega), pk_uLs]; rfl
    · rw [pk_uLs]; rfl
  rw [e, e2, show tn (nI 0) = 0 from nI_clamp (by omega)]
  exact ⟨Nat.zero_le _, rfl, rfl⟩
theorem pR_o {I2 K2 : wI} {j : Nat} {f g : Nat → Int64} {B C : Nat} (h : pR I2 j f B) (hB : B ≤ C) (e : ∀ o, o < 4 → K2 (47 + o) j = I2 (47 + o) j) (e2 : ∀ o, o < 4 → g (4 * j + o) = f (4 * j + o)) : pR K2 j g C := fun o ho => by
  rw [e o ho, e2 o ho]
  obtain ⟨h1, h2, h3⟩ := h o ho
  exact ⟨Nat.le_trans h1 hB, h2, h3⟩
theorem gJ_b {c its : Nat} {I2 I9 : wI} {m : Int32} {f : Nat → Int64} {B C : Nat} (h : gJ c I2 I9 f B) (hB : B ≤ C) : gJ (c + 1) (bgI I2 c its m) (mbI I9 its c m) (fB f c) C := by
  intro j hj
  by_cases z : j = c
  · subst z
    exact ⟨(show mbI I9 its j m 74 j = m from pk_us).trans (show bgI I2 j its m 24 j = m from pk_us).symm, (show mbI I9 its j m 75 j = m from pk_us).trans (show bgI I2 j its m 25 j = m from pk_us).symm, (show mbI I9 its j m 76 j = nI (0 + 1) from pk_us).trans (show bgI I2 j its m 26 j = nI 1 from pk_us).symm, pR_b C⟩
  · obtain ⟨h1, h2, h3, h4⟩ := h j (by omega)
    refine ⟨?_, ?_, ?_, pR_o h4 hB (fun o ho => ?_) (fun o ho => ?_)⟩
    · exact (show mbI I9 its c m 74 j = I9 74 j from pk_un z).trans (h1.trans (show bgI I2 c its m 24 j = I2 24 j from pk_un z).symm)
    · exact (show mbI I9 its c m 75 j = I9 75 j from pk_un z).trans (h2.trans (show bgI I2 c its m 25 j = I2 25 j from pk_un z).symm)
    · exact ((show mbI I9 its c m 76 j = upd (I9 76) c (nI 0) j from pk_un z).trans (pk_un z)).trans (h3.trans (show bgI I2 c its m 26 j = I2 26 j from pk_un z).symm)
    · rcases (show o = 0 ∨ o = 1 ∨ o = 2 ∨ o = 3 by omega) with rfl | rfl | rfl | rfl <;> exact pk_un z
    · unfold fB
      rw [pk_uLn (by omega), pk_uLn (by omega), pk_uLn (by omega), pk_uLn (by omega)]
theorem gJ_d {c its j : Nat} {I2 I9 : wI} {f : Nat → Int64} {B C : Nat} (h : gJ c I2 I9 f B) (hB : B ≤ C) : gJ c (pdI I2 its j) (mdI I9 its j) f C := by
  intro q hq
  obtain ⟨h1, h2, h3, h4⟩ := h q hq
  refine ⟨h1, h2, h3, pR_o h4 hB (fun o ho => ?_) (fun _ _ => rfl)⟩
  rcases (show o = 0 ∨ o = 1 ∨ o = 2 ∨ o = 3 by omega) with rfl | rfl | rfl | rfl <;> rfl
theorem pwL_col {nr n ns kind goal j b q : Nat} {m : Int32} (hq : q ≠ j) : ∀ (k : Nat) (at9 : Int32) (I : wI), wfC I nr n ns → pwL nr kind m goal j k at9 I b q = I b q
  | 0, _, I, _ => rfl
  | k + 1, at9, I, h => by
    unfold pwL
    by_cases z : rT I nr (tn at9) goal = -1
    · rw [if_pos z]
    · rw [if_neg z]
      have h1 : tn (rT I nr (tn at9) goal) < nr := (rT_nI h.1 z).1
      have h2 := (own_lt h h1).1
      have h3 : eqx I (sI I (47 + tn (I 11 (tn (rT I nr (tn at9) goal)))) j (I (47 + tn (I 11 (tn (rT I nr (tn at9) goal)))) j + cf I (I 10 (tn (rT I nr (tn at9) goal))) kind m)) := eqx_u I (by omega)
      rw [pwL_col hq k _ _ (wfC_x h h3)]
      by_cases y : b = 47 + tn (I 11 (tn (rT I nr (tn at9) goal)))
      · rw [y]
        exact (congrFun uI_s q).trans (pk_un hq)
      · exact congrFun (uI_n y) q
theorem pw_col {nr n ns a r j b q : Nat} {I : wI} (hq : q ≠ j) (h : wfC I nr n ns) : pw nr ns I a r j b q = I b q := by
  unfold pw
  split
  · rfl
  · exact pwL_col hq 12 _ I h
theorem gJ_g {nr n ns c its j a : Nat} {I2 I9 : wI} {m : Int32} {f g : Nat → Int64} {B C : Nat} (hw : wfC I2 nr n ns) (h : gJ c I2 I9 f B) (hB : B ≤ C) (hg : pR (pw nr ns (goI I2 its j m) a its j) j g C) (ho : ∀ k, (k < 4 * j ∨ 4 * j + 4 ≤ k) → g k = f k) : gJ c (pw nr ns (goI I2 its j m) a its j) (mgI I9 its j m) g C := by
  have hw2 : wfC (goI I2 its j m) nr n ns := wfC_x hw (eqx_go I2 its j m)
  intro q hq
  obtain ⟨h1, h2, h3, h4⟩ := h q hq
  rw [pw_27 (b := 24) (by omega) hw2, pw_27 (b := 25) (by omega) hw2, pw_27 (b := 26) (by omega) hw2]
  by_cases z : q = j
  · subst z
    refine ⟨h1, (show mgI I9 its q m 75 q = m from pk_us).trans (show goI I2 its q m 25 q = m from pk_us).symm, ?_, hg⟩
    exact (show mgI I9 its q m 76 q = I9 76 q + nI 1 from pk_us).trans (by rw [h3]; exact (show goI I2 its q m 26 q = I2 26 q + nI 1 from pk_us).symm)
  · refine ⟨h1, ?_, ?_, pR_o h4 hB (fun o ho1 => ?_) (fun o ho1 => ho _ (by omega))⟩
    · exact (show mgI I9 its j m 75 q = I9 75 q from pk_un z).trans (h2.trans (show goI I2 its j m 25 q = I2 25 q from pk_un z).symm)
    · exact (show mgI I9 its j m 76 q = I9 76 q from pk_un z).trans (h3.trans (show goI I2 its j m 26 q = I2 26 q from pk_un z).symm)
    · rw [pw_col z hw2]
      rcases (show o = 0 ∨ o = 1 ∨ o = 2 ∨ o = 3 by omega) with rfl | rfl | rfl | rfl <;> rfl
theorem mI_x {I I9 : wI} (h : mI I) (e : ∀ a, a < 71 → I9 a = I a) : mI I9 := by
  unfold mI at h ⊢
  rw [e 51 (by omega), e 52 (by omega), e 53 (by omega), e 54 (by omega), e 56 (by omega), e 57 (by omega), e 58 (by omega), e 59 (by omega), e 64 (by omega), e 65 (by omega), e 66 (by omega), e 67 (by omega), e 68 (by omega), e 69 (by omega), e 70 (by omega), e 8 (by omega), e 9 (by omega), e 10 (by omega), e 11 (by omega), e 12 (by omega), e 13 (by omega), e 14 (by omega), e 15 (by omega), e 16 (by omega), e 17 (by omega), e 18 (by omega), e 19 (by omega), e 20 (by omega), e 21 (by omega), e 22 (by omega)]
  exact h
/-- what goes leaves -/
def gF (n plate : Nat) (I : wI) (M : Nat) (S : fS) (I9 : wI) (J9 : wJ) : Prop := (∀ j, j < S.1 → I9 74 j = S.2.2 24 j ∧ I9 75 j = S.2.2 25 j ∧ I9 76 j = S.2.2 26 j ∧ J9 78 j = (fr S.2.2 j (nI M)).toInt64 ∧ ∀ o, o < 4 → J9 79 (4 * j + o) = (shr S.2.2 j o (nI M)).toInt64) ∧ ∀ r, r < n → I 20 r = nI plate → I9 71 r = (if I 22 r = 0 then S.2.2 28 r else nI 0) ∧ I9 72 r = (if I 22 r = 0 then S.2.2 27 r else -1)
theorem gA_e {n plate : Nat} {I I2 I9 : wI} (hS : wS I n) (hd : gD n plate I n I9) (ha : gA n plate I I2 I9) : ∀ r, r < n → I 20 r = nI plate → I9 71 r = (if I 22 r = 0 then I2 28 r else nI 0) ∧ I9 72 r = (if I 22 r = 0 then I2 27 r else -1) := by
  intro r hr hp
  obtain ⟨a1, a2⟩ := ha r hr
  by_cases z : I 22 r = 0
  · rw [if_pos z, if_pos z]
    obtain ⟨q, hq, eq⟩ := hS.2.1 r hr
    exact a1 (fun w => (hd r hr).mp w ⟨q, hq, eq, hp, z⟩)
  · rw [if_neg z, if_neg z]
    exact a2 ((hd r hr).mpr (fun ⟨q, _, _, w⟩ => z w.2)) hp
theorem gD_n {n plate p : Nat} {I I9 : wI} (hp : p ≤ n) (hd : gD n plate I p I9) (hs : ∀ s, p ≤ s → s < n → ¬ mt I plate (tn (I 23 s))) : gD n plate I n I9 := by
  intro r hr
  rw [hd r hr]
  refine ⟨fun w ⟨t, t1, t2, t3⟩ => ?_, fun w ⟨t, t1, t2, t3⟩ => w ⟨t, by omega, t2, t3⟩⟩
  rcases Nat.lt_or_ge t p with y | y
  · exact w ⟨t, y, t2, t3⟩
  · exact hs t y t1 (by rw [t2]; exact t3)
/-- the start of goes, half done -/
def g0I (n plate : Nat) (I : wI) (k : Nat) (I9 : wI) : Prop := ∀ r, r < k → I9 73 r = 0 ∧ (I 20 r = nI plate → I9 71 r = 0 ∧ I9 72 r = -1)
theorem g0_n {n plate k : Nat} {I I9 : wI} (h : g0I n plate I k I9) (hc : ¬ I 20 k = nI plate) : g0I n plate I (k + 1) (sI I9 73 k (nI 0)) := by
  intro r hr
  by_cases z : r = k
  · subst z
    exact ⟨pk_us, fun w => absurd w hc⟩
  · obtain ⟨h1, h2⟩ := h r (by omega)
    exact ⟨(pk_un z).trans h1, h2⟩
theorem g0_y {n plate k : Nat} {I I9 : wI} (h : g0I n plate I k I9) : g0I n plate I (k + 1) (sI (sI (sI I9 73 k (nI 0)) 71 k (nI 0)) 72 k (-1)) := by
  intro r hr
  by_cases z : r = k
  · subst z
    exact ⟨pk_us, fun _ => ⟨pk_us, pk_us⟩⟩
  · obtain ⟨h1, h2⟩ := h r (by omega)
    exact ⟨(pk_un z).trans h1, fun w => ⟨(pk_un z).trans (h2 w).1, (pk_un z).trans (h2 w).2⟩⟩
theorem g0_e {n plate : Nat} {I I9 I2 : wI} (h : g0I n plate I n I9) : gD n plate I 0 I9 ∧ gA n plate I I2 I9 := ⟨fun r hr => ⟨fun _ ⟨t, t1, _⟩ => absurd t1 (Nat.not_lt_zero _), fun _ => (h r hr).1⟩, fun r hr => ⟨fun w => absurd (h r hr).1 w, fun _ => (h r hr).2⟩⟩
theorem sJ4 (J : wJ) (f : Nat → Int64) {c : Nat} : sJ (sJ (sJ (sJ (uJ J 77 f) 77 (4 * c + 0) 0) 77 (4 * c + 1) 0) 77 (4 * c + 2) 0) 77 (4 * c + 3) 0 = uJ J 77 (fB f c) := by
  unfold sJ fB
  rw [uJ_s, uJ_uJ, uJ_s, uJ_uJ, uJ_s, uJ_uJ, uJ_s, uJ_uJ]
theorem J78 (J : wJ) (f : Nat → Int64) : uJ J 77 f = uJ (uJ (uJ J 77 f) 78 (J 78)) 79 (J 79) := funext fun b => by
  unfold uJ
  by_cases h : b = 79
  · rw [if_pos h, if_neg (by omega), h]
  · rw [if_neg h]
    by_cases h2 : b = 78
    · rw [if_pos h2, if_neg (by omega), h2]
    · rw [if_neg h2]
theorem J789 (J : wJ) (f8 g8 g h : Nat → Int64) : uJ (uJ (uJ (uJ J 78 g) 79 h) 78 f8) 79 g8 = uJ (uJ J 78 f8) 79 g8 := funext fun b => by
  unfold uJ
  by_cases h : b = 79
  · rw [if_pos h, if_pos h]
  · rw [if_neg h, if_neg h]
    by_cases h2 : b = 78
    · rw [if_pos h2, if_neg h, if_pos h2]
    · rw [if_neg h2, if_neg h, if_neg h2, if_neg h2]
theorem wT_x {I I2 : wI} {n : Nat} (h : wT I n) (e : ∀ a, a = 10 ∨ a = 12 ∨ a = 13 → I2 a = I a) : wT I2 n := by
  unfold wT
  rw [e 10 (by omega), e 12 (by omega), e 13 (by omega)]
  exact h
theorem hyS0 {I I2 I9 : wI} {its j : Nat} {m : Int32} (h : eqy I I2) (hk : gK I I9) : eqy I9 (goI I2 its j m) := fun a ha => by
  rw [eqx_go I2 its j m a (by omega), hk a (by omega)]
  exact h a ha
