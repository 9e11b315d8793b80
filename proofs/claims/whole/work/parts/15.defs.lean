/-! what the methods compute, over the one world -/
/-- the other end of road r, from at -/
def oE (I : wI) (r : Nat) (at9 : Int32) : Int32 := if I 8 r = at9 then I 9 r else if I 9 r = at9 then I 8 r else -1
/-- the least place with c, of k places from i on; -1 without -/
def fi (c : Nat → Bool) : Nat → Nat → Int32
  | 0, _ => -1
  | k + 1, i => if c i then nI i else fi c k (i + 1)
/-- road r leads on from at, to the goal -/
def rc (I : wI) (at9 goal r : Nat) : Bool := decide (oE I r (nI at9) ≠ -1) && decide (I (35 + (oE I r (nI at9)).toNatClampNeg) goal + I 10 r = I (35 + at9) goal)
def rT (I : wI) (n at9 goal : Nat) : Int32 := fi (rc I at9 goal) n 0
/-- the roads' ends are gates -/
def wfR (I : wI) (n : Nat) : Prop := n ≤ 24 ∧ ∀ r, r < n → vp_in (I 8 r) 12 ∧ vp_in (I 9 r) 12
theorem oE_in {I : wI} {n r : Nat} {x : Int32} (h : wfR I n) (hr : r < n) (hx : ¬ oE I r x = -1) : vp_in (oE I r x) 12 := by
  unfold oE at hx ⊢
  by_cases h1 : I 8 r = x
  · rw [if_pos h1]; exact (h.2 r hr).2
  · rw [if_neg h1] at hx ⊢
    by_cases h2 : I 9 r = x
    · rw [if_pos h2]; exact (h.2 r hr).1
    · rw [if_neg h2] at hx; exact absurd rfl hx
theorem oE_nI {I : wI} {n r : Nat} {x : Int32} (h : wfR I n) (hr : r < n) (hx : ¬ oE I r x = -1) : (oE I r x).toNatClampNeg < 12 ∧ oE I r x = nI (oE I r x).toNatClampNeg := by
  obtain ⟨j, hj, e⟩ := vin_nI (oE_in h hr hx) (by decide)
  rw [e, nI_clamp (by omega)]
  exact ⟨hj, rfl⟩
theorem rc_t {I : wI} {at9 goal r : Nat} (h1 : ¬ oE I r (nI at9) = -1) (h2 : I (35 + (oE I r (nI at9)).toNatClampNeg) goal + I 10 r = I (35 + at9) goal) : rc I at9 goal r = true := by
  unfold rc
  rw [decide_eq_true h1, decide_eq_true h2]; rfl
theorem rc_f1 {I : wI} {at9 goal r : Nat} (h1 : oE I r (nI at9) = -1) : rc I at9 goal r = false := by
  unfold rc
  rw [decide_eq_false (fun q => q h1)]; rfl
theorem rc_f2 {I : wI} {at9 goal r : Nat} (h2 : ¬ I (35 + (oE I r (nI at9)).toNatClampNeg) goal + I 10 r = I (35 + at9) goal) : rc I at9 goal r = false := by
  unfold rc
  rw [decide_eq_false h2, Bool.and_false]
theorem fi_s {c : Nat → Bool} {k i : Nat} (h : c i = true) : fi c (k + 1) i = nI i := by
  show (if c i then nI i else fi c k (i + 1)) = _
  rw [h]; rfl
theorem fi_n {c : Nat → Bool} {k i : Nat} (h : c i = false) : fi c (k + 1) i = fi c k (i + 1) := by
  show (if c i then nI i else fi c k (i + 1)) = _
  rw [h]; rfl
/-- the road of a way, k steps at most, from the step-th on -/
def rW (I : wI) (n goal : Nat) (place : Int32) : Nat → Nat → Int32 → Int32
  | 0, _, _ => -1
  | k + 1, step, at9 => if rT I n at9.toNatClampNeg goal = -1 ∨ nI step = place then rT I n at9.toNatClampNeg goal else rW I n goal place k (step + 1) (oE I (rT I n at9.toNatClampNeg goal).toNatClampNeg at9)
/-- busy or not -/
def bz (m : Int32) : Bool := decide (m / nI 60 - m / nI 60 / nI 24 * nI 24 = nI 7) || decide (m / nI 60 - m / nI 60 / nI 24 * nI 24 = nI 8) || decide (m / nI 60 - m / nI 60 / nI 24 * nI 24 = nI 16) || decide (m / nI 60 - m / nI 60 / nI 24 * nI 24 = nI 17)
/-- what a road costs -/
def cf (I : wI) (len : Int32) (kind : Nat) (m : Int32) : Int32 := len * I 12 kind * (if bz m = true then I 13 kind else nI 100) / nI 100
/-- a new road's round over all distances, as the class goes it -/
def sdV (I : wI) (a b : Nat) (l : Int32) (f t : Nat) : Int32 :=
  (fun sh => if sh < I (35 + f) t then sh else I (35 + f) t) (if I (35 + f) b + l + I (35 + a) t < I (35 + f) a + l + I (35 + b) t then I (35 + f) b + l + I (35 + a) t else I (35 + f) a + l + I (35 + b) t)
def sdT (I : wI) (a b : Nat) (l : Int32) (f : Nat) : Nat → wI
  | 0 => I
  | t + 1 => uI (sdT I a b l f t) (35 + f) (upd (sdT I a b l f t (35 + f)) t (sdV (sdT I a b l f t) a b l f t))
def sdF (I : wI) (a b : Nat) (l : Int32) (g : Nat) : Nat → wI
  | 0 => I
  | f + 1 => sdT (sdF I a b l g f) a b l f g
/-- some place below n has c -/
def an (c : Nat → Bool) : Nat → Bool
  | 0 => false
  | n + 1 => an c n || c n
theorem an_t {c : Nat → Bool} {i : Nat} (h : c i = true) : ∀ n, i < n → an c n = true
  | 0, q => absurd q (Nat.not_lt_zero _)
  | n + 1, q => by
    show (an c n || c n) = true
    rcases Nat.lt_or_ge i n with z | z
    · rw [an_t h n z]; rfl
    · have e : i = n := by omega
      subst e
      rw [h, Bool.or_true]
theorem an_s {c : Nat → Bool} {n : Nat} (h1 : an c n = false) (h2 : c n = false) : an c (n + 1) = false := by
  show (an c n || c n) = false
  rw [h1, h2]; rfl
/-- span k exempts plate p at minute m -/
def ec (I : wI) (p m : Int32) (k : Nat) : Bool := decide (I 16 k = p) && (decide (I 17 k ≤ m) && decide (m ≤ I 18 k))
theorem ec_t {I : wI} {p m : Int32} {k : Nat} (h1 : I 16 k = p) (h2 : I 17 k ≤ m) (h3 : m ≤ I 18 k) : ec I p m k = true := by unfold ec; rw [decide_eq_true h1, decide_eq_true h2, decide_eq_true h3]; rfl
theorem ec_f1 {I : wI} {p m : Int32} {k : Nat} (h : ¬ I 16 k = p) : ec I p m k = false := by unfold ec; rw [decide_eq_false h]; rfl
theorem ec_f2 {I : wI} {p m : Int32} {k : Nat} (h : ¬ I 17 k ≤ m) : ec I p m k = false := by unfold ec; rw [decide_eq_false h, Bool.false_and, Bool.and_false]
theorem ec_f3 {I : wI} {p m : Int32} {k : Nat} (h : ¬ m ≤ I 18 k) : ec I p m k = false := by unfold ec; rw [decide_eq_false h, Bool.and_false, Bool.and_false]
theorem fi_in {c : Nat → Bool} : ∀ (k i : Nat), ¬ fi c k i = -1 → ∃ j, i ≤ j ∧ j < i + k ∧ c j = true ∧ (∀ q, i ≤ q → q < j → c q = false) ∧ fi c k i = nI j
  | 0, i, h => absurd rfl h
  | k + 1, i, h => by
    by_cases e : c i = true
    · exact ⟨i, Nat.le_refl _, by omega, e, fun q h1 h2 => by omega, fi_s e⟩
    · have e2 : c i = false := by cases hc : c i <;> simp_all
      rw [fi_n e2] at h ⊢
      obtain ⟨j, h1, h2, h3, h4, h5⟩ := fi_in k (i + 1) h
      refine ⟨j, by omega, by omega, h3, fun q q1 q2 => ?_, h5⟩
      rcases Nat.lt_or_ge i q with z | z
      · exact h4 q z q2
      · rw [show q = i by omega]; exact e2
theorem fi_none {c : Nat → Bool} : ∀ (k i : Nat), (∀ q, i ≤ q → q < i + k → c q = false) → fi c k i = -1
  | 0, i, h => rfl
  | k + 1, i, h => by
    rw [fi_n (h i (Nat.le_refl _) (by omega))]
    exact fi_none k (i + 1) (fun q h1 h2 => h q (by omega) (by omega))
theorem rT_nI {I : wI} {n at9 goal : Nat} (hw : wfR I n) (h : ¬ rT I n at9 goal = -1) : (rT I n at9 goal).toNatClampNeg < n ∧ rT I n at9 goal = nI (rT I n at9 goal).toNatClampNeg ∧ rc I at9 goal (rT I n at9 goal).toNatClampNeg = true := by
  obtain ⟨j, h1, h2, h3, -, h5⟩ := fi_in n 0 h
  have e : rT I n at9 goal = nI j := h5
  have h24 := hw.1
  rw [e, nI_clamp (by omega)]
  exact ⟨by omega, rfl, h3⟩
theorem rT_oE {I : wI} {n at9 goal : Nat} (hw : wfR I n) (h : ¬ rT I n at9 goal = -1) : ¬ oE I (rT I n at9 goal).toNatClampNeg (nI at9) = -1 := by
  have h1 := (rT_nI hw h).2.2
  unfold rc at h1
  rw [Bool.and_eq_true, decide_eq_true_eq] at h1
  exact h1.1
theorem nle_of_lt {a b : Int32} (h : a < b) : ¬ b ≤ a := Int32.not_le.mpr h
theorem le_of_nlt {a b : Int32} (h : ¬ a < b) : b ≤ a := Int32.not_lt.mp h

/-- one place of array a; of a long array -/
abbrev sI (I : wI) (a j : Nat) (x : Int32) : wI := uI I a (upd (I a) j x)
abbrev sJ (J : wJ) (a j : Nat) (x : Int64) : wJ := uJ J a (vp_updL (J a) j x)
/-- journeys: begin, go on, a DOUBLE -/
def bgI (I : wI) (c r : Nat) (m : Int32) : wI := sI (sI (sI (sI (sI (sI (sI (sI (sI I 24 c m) 25 c m) 26 c (nI 1)) (47 + 0) c (nI 0)) (47 + 1) c (nI 0)) (47 + 2) c (nI 0)) (47 + 3) c (nI 0)) 27 r (nI c)) 28 r (nI 0)
def goI (I : wI) (r j : Nat) (m : Int32) : wI := sI (sI (sI (sI I 25 j m) 26 j (I 26 j + nI 1)) 27 r (nI j)) 28 r (nI 0)
def pdI (I : wI) (r j : Nat) : wI := sI (sI I 27 r (nI j)) 28 r (nI 1)
/-- what is to be paid, all together; the fare -/
def wh (I : wI) (j : Nat) : Int32 := nI 0 + I (47 + 0) j + I (47 + 1) j + I (47 + 2) j + I (47 + 3) j
def fr (I : wI) (j : Nat) (m : Int32) : Int32 := if m < wh I j then m else wh I j
def cs (I : wI) (j o : Nat) (m w : Int32) : Int32 := if 0 < w then ((I (47 + o) j).toInt64 * m.toInt64 / w.toInt64).toInt32 else nI 0
def bO (I : wI) (j : Nat) : Nat → Nat
  | 0 => 0
  | k + 1 => if I (47 + (k + 1)) j ≤ I (47 + bO I j k) j then bO I j k else k + 1
theorem bO_le (I : wI) (j : Nat) : ∀ k, bO I j k ≤ k
  | 0 => Nat.le_refl _
  | k + 1 => by
    have h := bO_le I j k
    unfold bO
    by_cases q : I (47 + (k + 1)) j ≤ I (47 + bO I j k) j
    · rw [if_pos q]; omega
    · rw [if_neg q]; exact Nat.le_refl _
def lf (I : wI) (j o : Nat) (m w : Int32) : Nat → Int32
  | 0 => m
  | a + 1 => if a = o then lf I j o m w a else lf I j o m w a - cs I j a m w
def shr (I : wI) (j o : Nat) (m : Int32) : Int32 := if m < wh I j then (if o = bO I j 3 then lf I j o m (wh I j) 4 else cs I j o m (wh I j)) else I (47 + o) j
def sF (I : wI) (now m : Int32) : Nat → Int64
  | 0 => 0
  | j + 1 => if now - I 25 j < nI 60 then sF I now m j else sF I now m j + (fr I j m).toInt64
def sS (I : wI) (o : Nat) (now m : Int32) : Nat → Int64
  | 0 => 0
  | j + 1 => if now - I 25 j < nI 60 then sS I o now m j else sS I o now m j + (shr I j o m).toInt64
theorem ite01_f {c : Prop} [Decidable c] (h : (if c then nI 0 else nI 1) = 0) : c := by
  by_cases q : c
  · exact q
  · rw [if_neg q] at h; exact absurd h (by decide)
theorem ite01_t {c : Prop} [Decidable c] (h : ¬ (if c then nI 0 else nI 1) = 0) : ¬ c := fun q => h (by rw [if_pos q]; rfl)
theorem ite10_f {c : Prop} [Decidable c] (h : (if c then nI 1 else nI 0) = 0) : ¬ c := fun q => by rw [if_pos q] at h; exact absurd h (by decide)
theorem ite10_t {c : Prop} [Decidable c] (h : ¬ (if c then nI 1 else nI 0) = 0) : c := by
  by_cases q : c
  · exact q
  · exact absurd (by rw [if_neg q]; rfl) h
theorem nI_m1 {h : Nat} (hh : h < 2 ^ 31) : ¬ nI h = -1 := fun q => by
  have h1 := nI_toInt hh
  rw [q] at h1
  have h2 : (-1 : Int32).toInt = -1 := by decide
  omega
theorem w64_ne {w : Int32} (h : 0 < w) : ¬ w.toInt64 = 0 := fun q => by
  have h1 : w.toInt64.toInt = (0 : Int64).toInt := by rw [q]
  rw [Int32.toInt_toInt64] at h1
  have h2 := Int32.lt_iff_toInt_lt.mp h
  have h3 : (0 : Int32).toInt = 0 := by decide
  have h4 : (0 : Int64).toInt = 0 := by decide
  omega
/-- readings: the order, with place q free -/
def shf (f : Nat → Int32) (n q : Nat) : Nat → Int32 := fun p => if q < p ∧ p ≤ n then f (p - 1) else f p
theorem shf_n (f : Nat → Int32) (n : Nat) : shf f n n = f := funext fun p => if_neg (by omega)
theorem shf_s {f : Nat → Int32} {n q : Nat} (h : 0 < q) (hq : q ≤ n) : upd (shf f n q) q (f (q - 1)) = shf f n (q - 1) := funext fun p => by
  unfold upd shf
  by_cases h1 : p = q
  · subst h1
    rw [if_pos rfl, if_pos (by omega)]
  · rw [if_neg h1]
    by_cases h2 : q < p ∧ p ≤ n
    · rw [if_pos h2, if_pos (by omega)]
    · rw [if_neg h2, if_neg (by omega)]
theorem uI_self (I : wI) (a : Nat) : uI I a (I a) = I := funext fun b => by
  unfold uI
  by_cases h : b = a
  · rw [if_pos h, h]
  · rw [if_neg h]
theorem uI_uI (I : wI) (a : Nat) (f g : Nat → Int32) : uI (uI I a f) a g = uI I a g := funext fun b => by
  unfold uI
  by_cases h : b = a
  · rw [if_pos h, if_pos h]
  · rw [if_neg h, if_neg h, if_neg h]
/-- the three columns of a new reading -/
def rdI (I : wI) (n : Nat) (g p m : Int32) : wI := sI (sI (sI I 19 n g) 20 n p) 21 n m
/-- the order holds readings -/
def wfO (I : wI) (n : Nat) : Prop := ∀ p, p < n → ∃ r, r < n ∧ I 23 p = nI r
