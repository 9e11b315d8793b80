/-! distances: the greatest of all that no road breaks -/
def dR (n : Nat) (o p : Nat → Nat) (l : Nat → Int) (f : Nat → Int) (g : Nat) : Prop := f g ≤ 0 ∧ (∀ t, t < 12 → f t ≤ 1000000) ∧ ∀ r, r < n → f (p r) ≤ f (o r) + l r ∧ f (o r) ≤ f (p r) + l r
def dG (n : Nat) (o p : Nat → Nat) (l : Nat → Int) (D : Nat → Nat → Int) : Prop := ∀ g, g < 12 → dR n o p l (D g) g ∧ ∀ f, dR n o p l f g → ∀ t, t < 12 → f t ≤ D g t
def wl (n : Nat) (o p : Nat → Nat) (l : Nat → Int) : Prop := ∀ r, r < n → o r < 12 ∧ p r < 12 ∧ 1 ≤ l r ∧ l r ≤ 50
theorem dG_u {n : Nat} {o p : Nat → Nat} {l : Nat → Int} {D E : Nat → Nat → Int} (h : dG n o p l D) (h2 : dG n o p l E) {g t : Nat} (hg : g < 12) (ht : t < 12) : D g t = E g t := by
  have h3 := (h g hg).2 (E g) (h2 g hg).1 t ht
  have h4 := (h2 g hg).2 (D g) (h g hg).1 t ht
  omega
theorem dG_0 {n : Nat} {o p : Nat → Nat} {l : Nat → Int} {D : Nat → Nat → Int} (h : dG n o p l D) (w : wl n o p l) {g t : Nat} (hg : g < 12) (ht : t < 12) : 0 ≤ D g t :=
  (h g hg).2 (fun _ => 0) ⟨Int.le_refl 0, fun _ _ => by dsimp only; omega, fun r hr => by have := w r hr; dsimp only; omega⟩ t ht
theorem dG_m {n : Nat} {o p : Nat → Nat} {l : Nat → Int} {D : Nat → Nat → Int} (h : dG n o p l D) {g t : Nat} (hg : g < 12) (ht : t < 12) : D g t ≤ 1000000 := (h g hg).1.2.1 t ht
theorem dG_s {n : Nat} {o p : Nat → Nat} {l : Nat → Int} {D : Nat → Nat → Int} (h : dG n o p l D) (w : wl n o p l) {g : Nat} (hg : g < 12) : D g g = 0 := by
  have h1 := dG_0 h w hg hg
  have h2 := (h g hg).1.1
  omega
theorem dG_t {n : Nat} {o p : Nat → Nat} {l : Nat → Int} {D : Nat → Nat → Int} (h : dG n o p l D) (w : wl n o p l) {f b t : Nat} (hf : f < 12) (hb : b < 12) (ht : t < 12) : D f t ≤ D f b + D b t := by
  have h1 := (h b hb).2 (fun x => D f x - D f b) ⟨by dsimp only; omega, fun x hx => by have h2 := dG_m h hf hx; have h3 := dG_0 h w hf hb; dsimp only; omega, fun r hr => by have h2 := (h f hf).1.2.2 r hr; dsimp only; omega⟩ t ht
  try dsimp only at h1
  omega
theorem dG_c1 {n : Nat} {o p : Nat → Nat} {l : Nat → Int} {D : Nat → Nat → Int} (h : dG n o p l D) (w : wl n o p l) {x t : Nat} (hx : x < 12) (ht : t < 12) : D x t ≤ D t x := by
  have hp : dR n o p l (fun x => if x < 12 then D x t else 0) t := by
    refine ⟨?_, fun y hy => ?_, fun r hr => ?_⟩
    · dsimp only
      rw [if_pos ht, dG_s h w ht]
      exact Int.le_refl 0
    · dsimp only
      rw [if_pos hy]
      exact dG_m h hy ht
    · obtain ⟨ho, hp, h1, h2⟩ := w r hr
      dsimp only
      rw [if_pos ho, if_pos hp]
      have a1 := dG_t h w hp ho ht
      have a2 := dG_t h w ho hp ht
      have a3 := ((h _ hp).1.2.2 r hr).2
      have a4 := ((h _ ho).1.2.2 r hr).1
      have a5 := dG_s h w hp
      have a6 := dG_s h w ho
      omega
  have q := (h t ht).2 _ hp x hx
  try dsimp only at q
  rw [if_pos hx] at q
  exact q
theorem dG_c {n : Nat} {o p : Nat → Nat} {l : Nat → Int} {D : Nat → Nat → Int} (h : dG n o p l D) (w : wl n o p l) {x t : Nat} (hx : x < 12) (ht : t < 12) : D x t = D t x := by
  have h1 := dG_c1 h w hx ht
  have h2 := dG_c1 h w ht hx
  omega
theorem dG_p {n : Nat} {o p : Nat → Nat} {l : Nat → Int} {D : Nat → Nat → Int} (h : dG n o p l D) (w : wl n o p l) {g t : Nat} (hg : g < 12) (ht : t < 12) (hn : g ≠ t) : 1 ≤ D g t := by
  have q := (h g hg).2 (fun x => if x = g then 0 else 1) ⟨by dsimp only; rw [if_pos rfl]; exact Int.le_refl 0, fun y _ => by dsimp only; split <;> omega, fun r hr => by have := w r hr; dsimp only; split <;> split <;> omega⟩ t ht
  try dsimp only at q
  rw [if_neg (fun z => hn z.symm)] at q
  exact q
/-- a nearer neighbour -/
theorem dG_e {n : Nat} {o p : Nat → Nat} {l : Nat → Int} {D : Nat → Nat → Int} (h : dG n o p l D) (w : wl n o p l) {a g : Nat} (ha : a < 12) (hg : g < 12) (hn : a ≠ g) (hf : D a g < 1000000) : ∃ r, r < n ∧ ((o r = a ∧ D (p r) g + l r = D a g) ∨ (p r = a ∧ D (o r) g + l r = D a g)) := by
  refine Classical.byContradiction fun hc => ?_
  have hc1 : ∀ r, r < n → (o r = a → D (p r) g + l r ≠ D a g) ∧ (p r = a → D (o r) g + l r ≠ D a g) := fun r hr => ⟨fun q z => hc ⟨r, hr, Or.inl ⟨q, z⟩⟩, fun q z => hc ⟨r, hr, Or.inr ⟨q, z⟩⟩⟩
  have e := dG_c h w ha hg
  have q := (h g hg).2 (fun x => if x = a then D g a + 1 else D g x) ⟨by
    try dsimp only
    rw [if_neg (fun z => hn z.symm), dG_s h w hg]
    exact Int.le_refl 0, fun y hy => by
    try dsimp only
    have := dG_m h hg hy
    split <;> omega, fun r hr => by
    obtain ⟨ho, hp, h1, h2⟩ := w r hr
    obtain ⟨c1, c2⟩ := hc1 r hr
    have s := (h g hg).1.2.2 r hr
    have e1 := dG_c h w ho hg
    have e2 := dG_c h w hp hg
    try dsimp only
    by_cases z1 : p r = a
    · have c2 := c2 z1
      rw [if_pos z1]
      rw [z1] at s e2
      by_cases z2 : o r = a
      · rw [if_pos z2]; omega
      · rw [if_neg z2]; omega
    · rw [if_neg z1]
      by_cases z2 : o r = a
      · have c1 := c1 z2
        rw [if_pos z2]
        rw [z2] at s e1
        omega
      · rw [if_neg z2]; omega⟩ a ha
  try dsimp only at q
  rw [if_pos rfl] at q
  omega
/-- how many gates are nearer than v -/
def cN (D : Nat → Nat → Int) (g : Nat) (v : Int) : Nat → Nat
  | 0 => 0
  | k + 1 => cN D g v k + (if D k g < v then 1 else 0)
theorem cN_le (D : Nat → Nat → Int) (g : Nat) (v : Int) : ∀ k, cN D g v k ≤ k
  | 0 => Nat.le_refl _
  | k + 1 => by
    have := cN_le D g v k
    unfold cN
    split <;> omega
theorem cN_lt {D : Nat → Nat → Int} {g : Nat} {v : Int} {x : Nat} (hx : ¬ D x g < v) : ∀ k, x < k → cN D g v k + 1 ≤ k
  | 0, q => absurd q (Nat.not_lt_zero _)
  | k + 1, q => by
    unfold cN
    rcases Nat.lt_or_ge x k with z | z
    · have := cN_lt hx k z
      split <;> omega
    · have e : x = k := by omega
      subst e
      have := cN_le D g v x
      rw [if_neg hx]
      omega
theorem cN_mono {D : Nat → Nat → Int} {g : Nat} {v w : Int} (h : v ≤ w) : ∀ k, cN D g v k ≤ cN D g w k
  | 0 => Nat.le_refl _
  | k + 1 => by
    have := cN_mono (D := D) (g := g) h k
    unfold cN
    split <;> split <;> omega
theorem cN_s {D : Nat → Nat → Int} {g : Nat} {v w : Int} {x : Nat} (h : v ≤ w) (h1 : ¬ D x g < v) (h2 : D x g < w) : ∀ k, x < k → cN D g v k + 1 ≤ cN D g w k
  | 0, q => absurd q (Nat.not_lt_zero _)
  | k + 1, q => by
    unfold cN
    rcases Nat.lt_or_ge x k with z | z
    · have := cN_s h h1 h2 k z
      split <;> split <;> omega
    · have e : x = k := by omega
      subst e
      have := cN_mono (D := D) (g := g) h x
      rw [if_neg h1, if_pos h2]
      omega
/-- how many gates are nearer than gate a -/
def cA (D : Nat → Nat → Int) (g a : Nat) : Nat := cN D g (D a g) 12
theorem cA_le {D : Nat → Nat → Int} {g a : Nat} (ha : a < 12) : cA D g a ≤ 11 := by
  have := cN_lt (D := D) (g := g) (v := D a g) (x := a) (by omega) 12 ha
  unfold cA
  omega
theorem cA_s {D : Nat → Nat → Int} {g a b : Nat} (hb : b < 12) (h : D b g < D a g) : cA D g b + 1 ≤ cA D g a := cN_s (by omega) (by omega) h 12 hb
theorem dG_b {n : Nat} {o p : Nat → Nat} {l : Nat → Int} {D : Nat → Nat → Int} (h : dG n o p l D) (w : wl n o p l) {g : Nat} (hg : g < 12) : ∀ m a, a < 12 → cA D g a ≤ m → D a g < 1000000 → D a g ≤ 50 * cA D g a := by
  intro m
  induction m with
  | zero =>
    intro a ha hm hf
    by_cases e : a = g
    · subst e
      rw [dG_s h w ha]
      omega
    · obtain ⟨r, hr, q⟩ := dG_e h w ha hg e hf
      obtain ⟨ho, hp, h1, h2⟩ := w r hr
      rcases q with ⟨q1, q2⟩ | ⟨q1, q2⟩
      · have := cA_s (g := g) (a := a) hp (show D (p r) g < D a g by omega)
        omega
      · have := cA_s (g := g) (a := a) ho (show D (o r) g < D a g by omega)
        omega
  | succ m ih =>
    intro a ha hm hf
    by_cases e : a = g
    · subst e
      rw [dG_s h w ha]
      omega
    · obtain ⟨r, hr, q⟩ := dG_e h w ha hg e hf
      obtain ⟨ho, hp, h1, h2⟩ := w r hr
      rcases q with ⟨q1, q2⟩ | ⟨q1, q2⟩
      · have h3 := cA_s (g := g) (a := a) hp (show D (p r) g < D a g by omega)
        have h4 := ih (p r) hp (by omega) (by omega)
        omega
      · have h3 := cA_s (g := g) (a := a) ho (show D (o r) g < D a g by omega)
        have h4 := ih (o r) ho (by omega) (by omega)
        omega
theorem dG_550 {n : Nat} {o p : Nat → Nat} {l : Nat → Int} {D : Nat → Nat → Int} (h : dG n o p l D) (w : wl n o p l) {a g : Nat} (ha : a < 12) (hg : g < 12) (hf : D a g < 1000000) : D a g ≤ 550 := by
  have h1 := dG_b h w hg 11 a ha (cA_le ha) hf
  have h2 := cA_le (D := D) (g := g) ha
  omega
/-- the least of three -/
def m3 (x A B C : Int) : Prop := x ≤ A ∧ x ≤ B ∧ x ≤ C ∧ (x = A ∨ x = B ∨ x = C)
theorem dG_x {n : Nat} {o p : Nat → Nat} {l : Nat → Int} {D E : Nat → Nat → Int} {a b : Nat} {w : Int} (h : dG n o p l D) (hw : wl (n + 1) o p l) (ea : o n = a) (eb : p n = b) (el : l n = w) (hE : ∀ f t, f < 12 → t < 12 → m3 (E f t) (D f t) (D f a + w + D b t) (D f b + w + D a t)) : dG (n + 1) o p l E := by
  have w0 : wl n o p l := fun r hr => hw r (by omega)
  obtain ⟨ha, hb, hw1, hw2⟩ := hw n (by omega)
  rw [ea] at ha
  rw [eb] at hb
  rw [el] at hw1 hw2
  intro g hg
  refine ⟨⟨?_, fun t ht => ?_, fun r hr => ?_⟩, fun f hf t ht => ?_⟩
  · have h1 := hE g g hg hg
    have h2 := dG_s h w0 hg
    unfold m3 at h1
    omega
  · have h1 := hE g t hg ht
    have h2 := dG_m h hg ht
    unfold m3 at h1
    omega
  · rcases Nat.lt_or_ge r n with z | z
    · obtain ⟨ho, hp, h1, h2⟩ := w0 r z
      have e1 := hE g (p r) hg hp
      have e2 := hE g (o r) hg ho
      have s1 := (h g hg).1.2.2 r z
      have s2 := (h a ha).1.2.2 r z
      have s3 := (h b hb).1.2.2 r z
      unfold m3 at e1 e2
      omega
    · have e : r = n := by omega
      subst e
      rw [ea, eb, el]
      have e1 := hE g a hg ha
      have e2 := hE g b hg hb
      have s1 := dG_s h w0 ha
      have s2 := dG_s h w0 hb
      have s3 := dG_0 h w0 ha hb
      have s4 := dG_0 h w0 hb ha
      unfold m3 at e1 e2
      omega
  · obtain ⟨f1, f2, f3⟩ := hf
    have q1 := (h g hg).2 f ⟨f1, f2, fun r hr => f3 r (by omega)⟩
    have key : ∀ c, c < 12 → f t ≤ f c + D c t ∨ 1000000 ≤ D c t := by
      intro c hc
      have q2 := (h c hc).2 (fun x => if f x - f c ≤ 1000000 then f x - f c else 1000000) ⟨by dsimp only; split <;> omega, fun y _ => by dsimp only; split <;> omega, fun r hr => by
        have h5 := f3 r (by omega)
        have h6 := w0 r hr
        try dsimp only
        split <;> split <;> omega⟩ t ht
      try dsimp only at q2
      split at q2
      · exact Or.inl (by omega)
      · exact Or.inr q2
    have ka := key a ha
    have kb := key b hb
    have qa := q1 a ha
    have qb := q1 b hb
    have qt := q1 t ht
    have ft := f2 t ht
    have fr := f3 n (by omega)
    rw [ea, eb, el] at fr
    have d1 := dG_0 h w0 hg ha
    have d2 := dG_0 h w0 hg hb
    have e1 := hE g t hg ht
    unfold m3 at e1
    omega
/-- one entry, in place -/
theorem dG_in {n : Nat} {o p : Nat → Nat} {l : Nat → Int} {D E C : Nat → Nat → Int} {a b : Nat} {w : Int} (hE : dG (n + 1) o p l E) (hw : wl (n + 1) o p l) (ea : o n = a) (eb : p n = b) (el : l n = w) (h3 : ∀ f t, f < 12 → t < 12 → m3 (E f t) (D f t) (D f a + w + D b t) (D f b + w + D a t)) (hC : ∀ f t, f < 12 → t < 12 → E f t ≤ C f t ∧ C f t ≤ D f t) {f t : Nat} (hf : f < 12) (ht : t < 12) {x : Int} (hx : m3 x (C f t) (C f a + w + C b t) (C f b + w + C a t)) : x = E f t := by
  obtain ⟨ha, hb, hw1, hw2⟩ := hw n (by omega)
  rw [ea] at ha
  rw [eb] at hb
  have t1 := dG_t hE hw hf ha ht
  have t2 := dG_t hE hw hf hb ht
  have s1 := (hE f hf).1.2.2 n (by omega)
  rw [ea, eb, el] at s1
  have c1 := hC f t hf ht
  have c2 := hC f a hf ha
  have c3 := hC f b hf hb
  have c4 := hC a t ha ht
  have c5 := hC b t hb ht
  have e1 := h3 f t hf ht
  unfold m3 at hx e1
  omega
/-- gates that no road ends at are far away -/
theorem dG_far {n : Nat} {o p : Nat → Nat} {l : Nat → Int} {D : Nat → Nat → Int} (h : dG n o p l D) (w : wl n o p l) {g0 f t : Nat} (hg0 : ∀ r, r < n → o r < g0 ∧ p r < g0) (hf : f < 12) (ht : t < 12) (hfg : g0 ≤ f) (hn : f ≠ t) : D f t = 1000000 ∧ D t f = 1000000 := by
  have q := (h f hf).2 (fun x => if x = f then 0 else 1000000) ⟨by dsimp only; rw [if_pos rfl]; exact Int.le_refl 0, fun y _ => by dsimp only; split <;> omega, fun r hr => by
    have h1 := w r hr
    have h2 := hg0 r hr
    try dsimp only
    rw [if_neg (by omega), if_neg (by omega)]
    omega⟩ t ht
  try dsimp only at q
  rw [if_neg (fun z => hn z.symm)] at q
  have h1 := dG_m h hf ht
  have h2 := dG_c h w hf ht
  omega
/-- what a new road leaves as it was -/
theorem dG_out {n : Nat} {o p : Nat → Nat} {l : Nat → Int} {D E : Nat → Nat → Int} {a b g0 : Nat} {w : Int} (h : dG n o p l D) (hw : wl (n + 1) o p l) (ea : o n = a) (eb : p n = b) (el : l n = w) (hg0 : ∀ r, r < n + 1 → o r < g0 ∧ p r < g0) (hE : ∀ f t, f < 12 → t < 12 → m3 (E f t) (D f t) (D f a + w + D b t) (D f b + w + D a t)) {f t : Nat} (hf : f < 12) (ht : t < 12) (hn : g0 ≤ f ∨ g0 ≤ t) : E f t = D f t := by
  have w0 : wl n o p l := fun r hr => hw r (by omega)
  obtain ⟨ha, hb, hw1, hw2⟩ := hw n (by omega)
  have hg := hg0 n (by omega)
  rw [ea] at ha hg
  rw [eb] at hb hg
  rw [el] at hw1
  have e1 := hE f t hf ht
  unfold m3 at e1
  have m1 := dG_m h hf ht
  have z1 := dG_0 h w0 hf ha
  have z2 := dG_0 h w0 hf hb
  have z3 := dG_0 h w0 ha ht
  have z4 := dG_0 h w0 hb ht
  have hg1 : ∀ r, r < n → o r < g0 ∧ p r < g0 := fun r hr => hg0 r (by omega)
  rcases hn with hn | hn
  · have f1 := (dG_far h w0 hg1 hf ha hn (by omega)).1
    have f2 := (dG_far h w0 hg1 hf hb hn (by omega)).1
    omega
  · have f1 := (dG_far h w0 hg1 ht ha hn (by omega)).2
    have f2 := (dG_far h w0 hg1 ht hb hn (by omega)).2
    omega
/-- a table of distances at the start -/
theorem dG_n0 (o p : Nat → Nat) (l : Nat → Int) : dG 0 o p l (fun f t => if f = t then 0 else 1000000) := by
  intro g hg
  refine ⟨⟨by dsimp only; rw [if_pos rfl]; exact Int.le_refl 0, fun t _ => by dsimp only; split <;> omega, fun r hr => absurd hr (Nat.not_lt_zero _)⟩, fun f hf t ht => ?_⟩
  try dsimp only
  split
  · rename_i e
    subst e
    exact hf.1
  · exact hf.2.1 t ht
/-! the class's table -/
abbrev fO (I : wI) : Nat → Nat := fun r => tn (I 8 r)
abbrev fP (I : wI) : Nat → Nat := fun r => tn (I 9 r)
abbrev fL (I : wI) : Nat → Int := fun r => (I 10 r).toInt
abbrev fD (I : wI) : Nat → Nat → Int := fun f t => (I (35 + f) t).toInt
def dK (I : wI) (n : Nat) : Prop := dG n (fO I) (fP I) (fL I) (fD I) ∧ wl n (fO I) (fP I) (fL I) ∧ wfR I n
theorem oE_c {I : wI} {n r at9 : Nat} (hw : wfR I n) (hr : r < n) (h9 : at9 < 12) (hq : ¬ oE I r (nI at9) = -1) : (fO I r = at9 ∧ tn (oE I r (nI at9)) = fP I r) ∨ (fP I r = at9 ∧ tn (oE I r (nI at9)) = fO I r) := by
  unfold oE at hq ⊢
  by_cases h1 : I 8 r = nI at9
  · rw [if_pos h1]
    exact Or.inl ⟨by show tn (I 8 r) = at9; rw [h1]; exact nI_clamp (by omega), rfl⟩
  · rw [if_neg h1] at hq ⊢
    by_cases h2 : I 9 r = nI at9
    · rw [if_pos h2]
      exact Or.inr ⟨by show tn (I 9 r) = at9; rw [h2]; exact nI_clamp (by omega), rfl⟩
    · rw [if_neg h2] at hq
      exact absurd rfl hq
theorem oE_d {I : wI} {n r at9 : Nat} (hw : wfR I n) (hr : r < n) (h9 : at9 < 12) (h : fO I r = at9 ∨ fP I r = at9) : ¬ oE I r (nI at9) = -1 := by
  obtain ⟨a1, a2⟩ := vin_nI (hw.2 r hr).1 (by decide)
  obtain ⟨b1, b2⟩ := vin_nI (hw.2 r hr).2 (by decide)
  have e1 : fO I r = a1 := by show tn (I 8 r) = a1; rw [a2.2]; exact nI_clamp (by omega)
  have e2 : fP I r = b1 := by show tn (I 9 r) = b1; rw [b2.2]; exact nI_clamp (by omega)
  unfold oE
  rw [a2.2, b2.2]
  split
  · exact nI_m1 (by omega)
  · rename_i z
    rcases h with h | h
    · exact absurd (by rw [← e1, h]) z
    · rw [if_pos (by rw [← e2, h])]
      exact nI_m1 (by omega)
/-- the sum of a distance and a length, as the class finds it -/
theorem sum_i {x y : Int32} (hx : 0 ≤ x.toInt ∧ x.toInt ≤ 1000000) (hy : 0 ≤ y.toInt ∧ y.toInt ≤ 1000000) : (x + y).toInt = x.toInt + y.toInt := by
  rw [Int32.toInt_add, Int.bmod_def]
  split <;> omega
theorem rc_d {I : wI} {n at9 g r : Nat} (h : dK I n) (h9 : at9 < 12) (hg : g < 12) (hr : r < n) : rc I at9 g r = true ↔ ¬ oE I r (nI at9) = -1 ∧ fD I (tn (oE I r (nI at9))) g + fL I r = fD I at9 g := by
  unfold rc
  rw [Bool.and_eq_true, decide_eq_true_eq, decide_eq_true_eq]
  refine and_congr_right fun q => ?_
  have hn := (oE_nI h.2.2 hr q).1
  have h1 := dG_0 h.1 h.2.1 hn hg
  have h2 := dG_m h.1 hn hg
  obtain ⟨-, -, l1, l2⟩ := h.2.1 r hr
  have l1 : 1 ≤ (I 10 r).toInt := l1
  have l2 : (I 10 r).toInt ≤ 50 := l2
  rw [← Int32.toInt_inj, sum_i ⟨h1, h2⟩ ⟨by omega, by omega⟩]
theorem rc_self {I : wI} {n : Nat} (h : dK I n) {g r : Nat} (hg : g < 12) (hr : r < n) : rc I g g r = false := by
  cases e : rc I g g r with
  | false => rfl
  | true =>
    obtain ⟨q1, q2⟩ := (rc_d h hg hg hr).mp e
    have hn : tn (oE I r (nI g)) < 12 := (oE_nI h.2.2 hr q1).1
    have h1 := dG_0 h.1 h.2.1 hn hg
    have h2 := dG_s h.1 h.2.1 hg
    obtain ⟨-, -, l1, l2⟩ := h.2.1 r hr
    omega
/-- a road leads on just where a way is left -/
theorem rT_n {I : wI} {n a g : Nat} (h : dK I n) (ha : a < 12) (hg : g < 12) (hf : a = g ∨ fD I a g = 1000000) : rT I n a g = -1 := by
  refine fi_none n 0 fun r _ hr => ?_
  have hr : r < n := by omega
  rcases hf with e | hf
  · subst e
    exact rc_self h hg hr
  · cases e : rc I a g r with
    | false => rfl
    | true =>
      obtain ⟨q1, q2⟩ := (rc_d h ha hg hr).mp e
      have hn : tn (oE I r (nI a)) < 12 := (oE_nI h.2.2 hr q1).1
      obtain ⟨-, -, l1, l2⟩ := h.2.1 r hr
      have := dG_550 h.1 h.2.1 hn hg (by omega)
      omega
theorem rT_y {I : wI} {n a g : Nat} (h : dK I n) (ha : a < 12) (hg : g < 12) (hn : a ≠ g) (hf : fD I a g < 1000000) : ¬ rT I n a g = -1 := by
  obtain ⟨r, hr, q⟩ := dG_e h.1 h.2.1 ha hg hn hf
  have hc : rc I a g r = true := by
    rw [rc_d h ha hg hr]
    have hq : ¬ oE I r (nI a) = -1 := oE_d h.2.2 hr ha (by rcases q with q | q; exact Or.inl q.1; exact Or.inr q.1)
    refine ⟨hq, ?_⟩
    rcases oE_c h.2.2 hr ha hq with ⟨z1, z2⟩ | ⟨z1, z2⟩
    · rw [z2]
      rcases q with ⟨q1, q2⟩ | ⟨q1, q2⟩
      · exact q2
      · rw [show fP I r = fO I r by rw [z1, q1]]; exact q2
    · rw [z2]
      rcases q with ⟨q1, q2⟩ | ⟨q1, q2⟩
      · rw [show fO I r = fP I r by rw [z1, q1]]; exact q2
      · exact q2
  intro e
  have hw24 := h.2.2.1
  have : ∀ k i, i ≤ r → r < i + k → i + k ≤ n → ¬ fi (rc I a g) k i = -1 := by
    intro k
    induction k with
    | zero => intro i h1 h2 _; omega
    | succ k ih =>
      intro i h1 h2 h3
      by_cases z : rc I a g i = true
      · rw [fi_s z]; exact nI_m1 (by omega)
      · have z2 : rc I a g i = false := by cases zz : rc I a g i with | false => rfl | true => exact absurd zz z
        rw [fi_n z2]
        exact ih (i + 1) (by rcases Nat.lt_or_ge i r with y | y; exact y; exact absurd (by rw [show i = r by omega]; exact hc) z) (by omega) (by omega)
  exact this n 0 (by omega) (by omega) (by omega) e
/-- a step of a way comes nearer -/
theorem rT_s {I : wI} {n a g : Nat} (h : dK I n) (ha : a < 12) (hg : g < 12) (hq : ¬ rT I n a g = -1) : tn (oE I (tn (rT I n a g)) (nI a)) < 12 ∧ oE I (tn (rT I n a g)) (nI a) = nI (tn (oE I (tn (rT I n a g)) (nI a))) ∧ fD I (tn (oE I (tn (rT I n a g)) (nI a))) g < fD I a g ∧ cA (fD I) g (tn (oE I (tn (rT I n a g)) (nI a))) + 1 ≤ cA (fD I) g a ∧ a ≠ g ∧ fD I a g < 1000000 := by
  obtain ⟨h1, h2, h3⟩ := rT_nI h.2.2 hq
  obtain ⟨q1, q2⟩ := (rc_d h ha hg h1).mp h3
  obtain ⟨n1, n2⟩ := oE_nI h.2.2 h1 q1
  obtain ⟨-, -, l1, l2⟩ := h.2.1 _ h1
  have hlt : fD I (tn (oE I (tn (rT I n a g)) (nI a))) g < fD I a g := by
    have q2 : fD I (tn (oE I (tn (rT I n a g)) (nI a))) g + fL I (tn (rT I n a g)) = fD I a g := q2
    have l1 : 1 ≤ fL I (tn (rT I n a g)) := l1
    omega
  have hm := dG_m h.1 ha hg
  refine ⟨n1, n2, hlt, cA_s n1 hlt, fun e => hq (rT_n h ha hg (Or.inl e)), ?_⟩
  rcases Int.lt_or_le (fD I a g) 1000000 with z | z
  · exact z
  · exact absurd (rT_n h ha hg (Or.inr (by omega))) hq
theorem dG_cg {n : Nat} {o p o2 p2 : Nat → Nat} {l l2 : Nat → Int} {D : Nat → Nat → Int} (h : dG n o p l D) (e : ∀ r, r < n → o2 r = o r ∧ p2 r = p r ∧ l2 r = l r) : dG n o2 p2 l2 D := by
  intro g hg
  obtain ⟨⟨h1, h2, h3⟩, h4⟩ := h g hg
  refine ⟨⟨h1, h2, fun r hr => ?_⟩, fun f hf t ht => h4 f ⟨hf.1, hf.2.1, fun r hr => ?_⟩ t ht⟩
  · obtain ⟨a, b, c⟩ := e r hr
    rw [a, b, c]
    exact h3 r hr
  · obtain ⟨a, b, c⟩ := e r hr
    rw [← a, ← b, ← c]
    exact hf.2.2 r hr
def mn3 (A B C : Int) : Int := if A ≤ B then (if A ≤ C then A else C) else (if B ≤ C then B else C)
theorem mn3_m (A B C : Int) : m3 (mn3 A B C) A B C := by
  unfold m3 mn3
  split <;> split <;> omega
theorem sdV_m {I : wI} {a b f t : Nat} {l : Int32} (h0 : ∀ x y, x < 12 → y < 12 → 0 ≤ fD I x y ∧ fD I x y ≤ 1000000) (hl : 0 ≤ l.toInt ∧ l.toInt ≤ 50) (ha : a < 12) (hb : b < 12) (hf : f < 12) (ht : t < 12) : m3 (sdV I a b l f t).toInt (fD I f t) (fD I f a + l.toInt + fD I b t) (fD I f b + l.toInt + fD I a t) := by
  have z1 := h0 f t hf ht
  have z2 := h0 f a hf ha
  have z3 := h0 b t hb ht
  have z4 := h0 f b hf hb
  have z5 := h0 a t ha ht
  have add2 : ∀ x y : Int32, 0 ≤ x.toInt → x.toInt ≤ 1000000 → 0 ≤ y.toInt → y.toInt ≤ 1000000 → (x + l + y).toInt = x.toInt + l.toInt + y.toInt := by
    intro x y h1 h2 h3 h4
    rw [Int32.toInt_add, Int32.toInt_add, Int.bmod_def, Int.bmod_def]
    split <;> split <;> omega
  have e1 := add2 (I (35 + f) a) (I (35 + b) t) z2.1 z2.2 z3.1 z3.2
  have e2 := add2 (I (35 + f) b) (I (35 + a) t) z4.1 z4.2 z5.1 z5.2
  unfold sdV m3
  dsimp only [fD] at *
  by_cases q : I (35 + f) b + l + I (35 + a) t < I (35 + f) a + l + I (35 + b) t
  · have q' := Int32.lt_iff_toInt_lt.mp q
    rw [if_pos q]
    by_cases q2 : I (35 + f) b + l + I (35 + a) t < I (35 + f) t
    · have q2' := Int32.lt_iff_toInt_lt.mp q2
      rw [if_pos q2]
      omega
    · have q2' := Int32.le_iff_toInt_le.mp (Int32.not_lt.mp q2)
      rw [if_neg q2]
      omega
  · have q' := Int32.le_iff_toInt_le.mp (Int32.not_lt.mp q)
    rw [if_neg q]
    by_cases q2 : I (35 + f) a + l + I (35 + b) t < I (35 + f) t
    · have q2' := Int32.lt_iff_toInt_lt.mp q2
      rw [if_pos q2]
      omega
    · have q2' := Int32.le_iff_toInt_le.mp (Int32.not_lt.mp q2)
      rw [if_neg q2]
      omega
/-- the class's round over the table, half done -/
def cI (I4 : wI) (E : Nat → Nat → Int) (g0 f t : Nat) (I : wI) : Prop := (∀ c, c < 35 ∨ 46 < c → I c = I4 c) ∧ (∀ x y, x < 12 → y < 12 → E x y ≤ fD I x y ∧ fD I x y ≤ fD I4 x y) ∧ (∀ x y, x < 12 → y < 12 → (x < f ∧ y < g0) ∨ (x = f ∧ y < t) → fD I x y = E x y)
theorem cI_s {I4 I : wI} {E : Nat → Nat → Int} {g0 f t a b n : Nat} {l : Int32} (hg0 : g0 ≤ 12) (hf : f < g0) (ht : t < g0) (h : cI I4 E g0 f t I) (hw : wl (n + 1) (fO I4) (fP I4) (fL I4)) (ea : fO I4 n = a) (eb : fP I4 n = b) (el : fL I4 n = l.toInt) (hD : dG n (fO I4) (fP I4) (fL I4) (fD I4)) (hE : dG (n + 1) (fO I4) (fP I4) (fL I4) E) (h3 : ∀ f t, f < 12 → t < 12 → m3 (E f t) (fD I4 f t) (fD I4 f a + l.toInt + fD I4 b t) (fD I4 f b + l.toInt + fD I4 a t)) : cI I4 E g0 f (t + 1) (uI I (35 + f) (upd (I (35 + f)) t (sdV I a b l f t))) := by
  obtain ⟨h1, h2, h4⟩ := h
  obtain ⟨ha, hb, l1, l2⟩ := hw n (by omega)
  rw [ea] at ha
  rw [eb] at hb
  rw [el] at l1 l2
  have w0 : wl n (fO I4) (fP I4) (fL I4) := fun r hr => hw r (by omega)
  have hv := sdV_m (I := I) (a := a) (b := b) (f := f) (t := t) (l := l) (fun x y hx hy => by
    have q1 := h2 x y hx hy
    have q2 := dG_0 hE hw hx hy
    have q3 := dG_m hD hx hy
    omega) ⟨by omega, l2⟩ ha hb (by omega) (by omega)
  have ev := dG_in hE hw ea eb el h3 h2 (show f < 12 by omega) (show t < 12 by omega) hv
  have key : ∀ x y, fD (uI I (35 + f) (upd (I (35 + f)) t (sdV I a b l f t))) x y = if x = f ∧ y = t then E f t else fD I x y := by
    intro x y
    show (uI I (35 + f) (upd (I (35 + f)) t (sdV I a b l f t)) (35 + x) y).toInt = _
    by_cases ex : x = f
    · subst ex
      rw [uI_s]
      unfold upd
      by_cases ey : y = t
      · rw [if_pos ey, if_pos ⟨rfl, ey⟩]; exact ev
      · rw [if_neg ey, if_neg (fun z => ey z.2)]
    · rw [uI_n (by omega), if_neg (fun z => ex z.1)]
  refine ⟨fun c hc => ?_, fun x y hx hy => ?_, fun x y hx hy hxy => ?_⟩
  · rw [uI_n (by omega)]
    exact h1 c hc
  · rw [key]
    have q1 := h2 x y hx hy
    split
    · rename_i e
      obtain ⟨rfl, rfl⟩ := e
      omega
    · exact q1
  · rw [key]
    split
    · rename_i e
      obtain ⟨rfl, rfl⟩ := e
      rfl
    · exact h4 x y hx hy (by omega)
theorem sdF_ok {I4 : wI} {g0 a b n : Nat} {l : Int32} (hg0 : g0 ≤ 12) (hw : wl (n + 1) (fO I4) (fP I4) (fL I4)) (ea : fO I4 n = a) (eb : fP I4 n = b) (el : fL I4 n = l.toInt) (hends : ∀ r, r < n + 1 → fO I4 r < g0 ∧ fP I4 r < g0) (hD : dG n (fO I4) (fP I4) (fL I4) (fD I4)) : (∀ c, c < 35 ∨ 46 < c → sdF I4 a b l g0 g0 c = I4 c) ∧ dG (n + 1) (fO I4) (fP I4) (fL I4) (fD (sdF I4 a b l g0 g0)) := by
  have h3 : ∀ f t, f < 12 → t < 12 → m3 (mn3 (fD I4 f t) (fD I4 f a + l.toInt + fD I4 b t) (fD I4 f b + l.toInt + fD I4 a t)) (fD I4 f t) (fD I4 f a + l.toInt + fD I4 b t) (fD I4 f b + l.toInt + fD I4 a t) := fun f t _ _ => mn3_m _ _ _
  generalize hEq : (fun f t => mn3 (fD I4 f t) (fD I4 f a + l.toInt + fD I4 b t) (fD I4 f b + l.toInt + fD I4 a t)) = E
  have h3 : ∀ f t, f < 12 → t < 12 → m3 (E f t) (fD I4 f t) (fD I4 f a + l.toInt + fD I4 b t) (fD I4 f b + l.toInt + fD I4 a t) := by
    rw [← hEq]
    exact h3
  clear hEq
  have hE : dG (n + 1) (fO I4) (fP I4) (fL I4) E := dG_x hD hw ea eb el h3
  have hT : ∀ f, f < g0 → ∀ I, cI I4 E g0 f 0 I → ∀ t, t ≤ g0 → cI I4 E g0 f t (sdT I a b l f t) := by
    intro f hf I hI t
    induction t with
    | zero => intro _; exact hI
    | succ t ih => intro ht; exact cI_s hg0 hf (by omega) (ih (by omega)) hw ea eb el hD hE h3
  have hF : ∀ f, f ≤ g0 → cI I4 E g0 f 0 (sdF I4 a b l g0 f) := by
    intro f
    induction f with
    | zero =>
      intro _
      refine ⟨fun _ _ => rfl, fun x y hx hy => ?_, fun x y hx hy q => by omega⟩
      have q := h3 x y hx hy
      unfold m3 at q
      exact ⟨q.1, Int.le_refl _⟩
    | succ f ih =>
      intro hf
      obtain ⟨a1, a2, a3⟩ := hT f (by omega) _ (ih (by omega)) g0 (Nat.le_refl _)
      exact ⟨a1, a2, fun x y hx hy q => a3 x y hx hy (by omega)⟩
  obtain ⟨a1, a2, a3⟩ := hF g0 (Nat.le_refl _)
  refine ⟨a1, ?_⟩
  have hEq : ∀ x y, x < 12 → y < 12 → fD (sdF I4 a b l g0 g0) x y = E x y := by
    intro x y hx hy
    by_cases q : x < g0 ∧ y < g0
    · exact a3 x y hx hy (Or.inl q)
    · have e1 := dG_out hD hw ea eb el hends h3 hx hy (by omega)
      have e2 := a2 x y hx hy
      omega
  intro g hg
  obtain ⟨⟨k1, k2, k3⟩, k4⟩ := hE g hg
  refine ⟨⟨by rw [hEq g g hg hg]; exact k1, fun t ht => by rw [hEq g t hg ht]; exact k2 t ht, fun r hr => ?_⟩, fun f hf t ht => by rw [hEq g t hg ht]; exact k4 f hf t ht⟩
  obtain ⟨ho, hp, -, -⟩ := hw r hr
  rw [hEq g _ hg hp, hEq g _ hg ho]
  exact k3 r hr
/-! the model's table -/
def gI (n : Nat) (o p : Nat → Nat) (l : Nat → Int) (f : Nat → Int32) : Prop := ∀ g, g < 12 → (f (12 * g + g)).toInt ≤ 0 ∧ ∀ t, t < 12 → (f (12 * g + t)).toInt ≤ 1000000 ∧ ∀ h, dR n o p l h g → h t ≤ (f (12 * g + t)).toInt
def mS (f : Nat → Int32) : Nat → Nat
  | 0 => 0
  | k + 1 => mS f k + (f k).toInt.toNat
theorem mS_le {f : Nat → Int32} {b : Nat} {y : Int32} (h : y.toInt.toNat ≤ (f b).toInt.toNat) : ∀ k, mS (upd f b y) k ≤ mS f k
  | 0 => Nat.le_refl _
  | k + 1 => by
    have := mS_le h k
    unfold mS
    by_cases e : k = b
    · subst e
      rw [pk_us]
      omega
    · rw [pk_un e]
      omega
theorem mS_lt {f : Nat → Int32} {b : Nat} {y : Int32} (h : y.toInt.toNat < (f b).toInt.toNat) : ∀ k, b < k → mS (upd f b y) k < mS f k
  | 0, q => absurd q (Nat.not_lt_zero _)
  | k + 1, q => by
    unfold mS
    by_cases e : k = b
    · subst e
      have := mS_le (Nat.le_of_lt h) k
      rw [pk_us]
      omega
    · have := mS_lt h k (by omega)
      rw [pk_un e]
      omega
theorem gI_0 {n : Nat} {o p : Nat → Nat} {l : Nat → Int} {f : Nat → Int32} (h : gI n o p l f) (w : wl n o p l) {g t : Nat} (hg : g < 12) (ht : t < 12) : 0 ≤ (f (12 * g + t)).toInt :=
  ((h g hg).2 t ht).2 (fun _ => 0) ⟨Int.le_refl 0, fun _ _ => by dsimp only; omega, fun r hr => by have := w r hr; dsimp only; omega⟩
theorem gI_r {n : Nat} {o p : Nat → Nat} {l : Nat → Int} {f : Nat → Int32} (h : gI n o p l f) (w : wl n o p l) {g r x y : Nat} (hg : g < 12) (hr : r < n) (hxy : (x = o r ∧ y = p r) ∨ (x = p r ∧ y = o r)) {l3 : Int32} (hl : l3.toInt = l r) (hc : f (12 * g + x) + l3 < f (12 * g + y)) : gI n o p l (upd f (12 * g + y) (f (12 * g + x) + l3)) ∧ mS (upd f (12 * g + y) (f (12 * g + x) + l3)) 144 < mS f 144 := by
  obtain ⟨ho, hp, l1, l2⟩ := w r hr
  have hx : x < 12 := by omega
  have hy : y < 12 := by omega
  have a1 := gI_0 h w hg hx
  have a2 := ((h g hg).2 x hx).1
  have e : (f (12 * g + x) + l3).toInt = (f (12 * g + x)).toInt + l r := by rw [sum_i ⟨a1, a2⟩ ⟨by omega, by omega⟩, hl]
  have c := Int32.lt_iff_toInt_lt.mp hc
  refine ⟨fun g2 hg2 => ?_, mS_lt (by omega) 144 (by omega)⟩
  obtain ⟨k1, k2⟩ := h g2 hg2
  have kv : ∀ t, t < 12 → (upd f (12 * g + y) (f (12 * g + x) + l3) (12 * g2 + t)).toInt = if g2 = g ∧ t = y then (f (12 * g + x)).toInt + l r else (f (12 * g2 + t)).toInt := by
    intro t ht
    by_cases q : g2 = g ∧ t = y
    · obtain ⟨rfl, rfl⟩ := q
      rw [pk_us, e, if_pos ⟨rfl, rfl⟩]
    · rw [pk_un (by omega), if_neg q]
  refine ⟨?_, fun t ht => ⟨?_, fun h9 hh => ?_⟩⟩
  · rw [kv g2 hg2]
    split
    · rename_i q
      obtain ⟨rfl, rfl⟩ := q
      omega
    · exact k1
  · rw [kv t ht]
    have := (k2 t ht).1
    split
    · rename_i q
      obtain ⟨rfl, rfl⟩ := q
      omega
    · exact this
  · rw [kv t ht]
    split
    · rename_i q
      obtain ⟨rfl, rfl⟩ := q
      have b1 := (k2 x hx).2 h9 hh
      have b2 := hh.2.2 r hr
      rcases hxy with ⟨rfl, rfl⟩ | ⟨rfl, rfl⟩ <;> omega
    · exact (k2 t ht).2 h9 hh
theorem gI_n {n : Nat} {o p : Nat → Nat} {l : Nat → Int} {f : Nat → Int32} (h : gI n o p l f) (w : wl n o p l) {g r x y : Nat} (hg : g < 12) (hr : r < n) (hx : x < 12) {l3 : Int32} (hl : l3.toInt = l r) (hc : ¬ f (12 * g + x) + l3 < f (12 * g + y)) : (f (12 * g + y)).toInt ≤ (f (12 * g + x)).toInt + l r := by
  obtain ⟨ho, hp, l1, l2⟩ := w r hr
  have a1 := gI_0 h w hg hx
  have a2 := ((h g hg).2 x hx).1
  have e : (f (12 * g + x) + l3).toInt = (f (12 * g + x)).toInt + l r := by rw [sum_i ⟨a1, a2⟩ ⟨by omega, by omega⟩, hl]
  have c : ¬ (f (12 * g + x) + l3).toInt < (f (12 * g + y)).toInt := fun z => hc (Int32.lt_iff_toInt_lt.mpr z)
  omega
def sG (o p : Nat → Nat) (l : Nat → Int) (f : Nat → Int32) (r g : Nat) : Prop := (f (12 * g + p r)).toInt ≤ (f (12 * g + o r)).toInt + l r ∧ (f (12 * g + o r)).toInt ≤ (f (12 * g + p r)).toInt + l r
theorem gI_z {n : Nat} {o p : Nat → Nat} {l : Nat → Int} {f : Nat → Int32} (h : gI n o p l f) (hs : ∀ r g, r < n → g < 12 → sG o p l f r g) : dG n o p l (fun g t => (f (12 * g + t)).toInt) := fun g hg => ⟨⟨(h g hg).1, fun t ht => ((h g hg).2 t ht).1, fun r hr => hs r g hr hg⟩, fun h9 hh t ht => ((h g hg).2 t ht).2 h9 hh⟩
def mf0 (j : Nat) : Int32 := if j / 12 = j % 12 then nI 0 else nI 1000000
theorem gI_s {n : Nat} {o p : Nat → Nat} {l : Nat → Int} {f : Nat → Int32} (h : ∀ j, j < 144 → f j = mf0 j) : gI n o p l f := by
  have e0 : (nI 0).toInt = 0 := by decide
  have e1 : (nI 1000000).toInt = 1000000 := by decide
  intro g hg
  refine ⟨?_, fun t ht => ?_⟩
  · rw [h _ (by omega)]
    unfold mf0
    rw [if_pos (by omega), e0]
    exact Int.le_refl 0
  · rw [h _ (by omega)]
    unfold mf0
    by_cases q : (12 * g + t) / 12 = (12 * g + t) % 12
    · rw [if_pos q, e0]
      have e : t = g := by omega
      exact ⟨by omega, fun h9 hh => by rw [e]; exact hh.1⟩
    · rw [if_neg q, e1]
      exact ⟨Int.le_refl _, fun h9 hh => hh.2.1 t ht⟩
theorem mF_of {I : wI} {n : Nat} {f : Nat → Int32} (hK : dG n (fO I) (fP I) (fL I) (fD I)) (hf : dG n (fO I) (fP I) (fL I) (fun g t => (f (12 * g + t)).toInt)) : mF (uI I 55 f) := fun a b ha hb => by
  rw [uI_s, uI_n (by omega)]
  exact Int32.toInt_inj.mp (dG_u hf hK ha hb)
theorem upd_ex {f m : Nat → Int32} {k : Nat} (h : ∀ j, j < k → f j = m j) : ∀ j, j < k + 1 → upd f k (m k) j = m j := fun j hj => by
  by_cases e : j = k
  · subst e; exact pk_us
  · rw [pk_un e]; exact h j (by omega)
/-- one round over the roads, half done -/
def pP (o p : Nat → Nat) (l : Nat → Int) (n m0 : Nat) (f : Nat → Int32) (x : Int32) (r g : Nat) : Prop := (x = nI 0 ∧ mS f 144 ≤ m0 ∧ ∀ r' g', r' < n → g' < 12 → (r' < r ∨ (r' = r ∧ g' < g)) → sG o p l f r' g') ∨ (x = nI 1 ∧ mS f 144 < m0)
theorem pP_0 {o p : Nat → Nat} {l : Nat → Int} {n : Nat} {f : Nat → Int32} : pP o p l n (mS f 144) f (nI 0) 0 0 := Or.inl ⟨rfl, Nat.le_refl _, fun r' g' _ _ q => by omega⟩
theorem pP_r {o p : Nat → Nat} {l : Nat → Int} {n m0 r g : Nat} {f : Nat → Int32} {x : Int32} (hg : 12 ≤ g) (h : pP o p l n m0 f x r g) : pP o p l n m0 f x (r + 1) 0 := by
  rcases h with ⟨h1, h2, h3⟩ | h
  · exact Or.inl ⟨h1, h2, fun r' g' a b q => h3 r' g' a b (by omega)⟩
  · exact Or.inr h
theorem pP_e {o p : Nat → Nat} {l : Nat → Int} {n m0 r : Nat} {f : Nat → Int32} {x : Int32} (hr : n ≤ r) (h : pP o p l n m0 f x r 0) : (x = nI 0 ∧ ∀ r' g', r' < n → g' < 12 → sG o p l f r' g') ∨ (x = nI 1 ∧ mS f 144 < m0) := by
  rcases h with ⟨h1, h2, h3⟩ | h
  · exact Or.inl ⟨h1, fun r' g' a b => h3 r' g' a b (by omega)⟩
  · exact Or.inr h
theorem pP_n {o p : Nat → Nat} {l : Nat → Int} {n m0 r g : Nat} {f : Nat → Int32} {x : Int32} (h : pP o p l n m0 f x r g) (hs : sG o p l f r g) : pP o p l n m0 f x r (g + 1) := by
  rcases h with ⟨h1, h2, h3⟩ | h
  · refine Or.inl ⟨h1, h2, fun r' g' a b q => ?_⟩
    by_cases e : r' = r ∧ g' = g
    · obtain ⟨rfl, rfl⟩ := e; exact hs
    · exact h3 r' g' a b (by omega)
  · exact Or.inr h
theorem pP_y {o p : Nat → Nat} {l : Nat → Int} {n m0 r g : Nat} {f f2 : Nat → Int32} {x : Int32} (h : pP o p l n m0 f x r g) (hs : mS f2 144 < mS f 144) : pP o p l n m0 f2 (nI 1) r (g + 1) := by
  rcases h with ⟨h1, h2, h3⟩ | h
  · exact Or.inr ⟨rfl, by omega⟩
  · exact Or.inr ⟨rfl, by omega⟩
theorem dG_cd {n : Nat} {o p : Nat → Nat} {l : Nat → Int} {D E : Nat → Nat → Int} (h : dG n o p l D) (e : ∀ g, g < 12 → E g = D g) : dG n o p l E := fun g hg => by rw [e g hg]; exact h g hg
theorem dK_x {I I2 : wI} {n : Nat} (h : dK I n) (e : ∀ a, (8 ≤ a ∧ a ≤ 10) ∨ (35 ≤ a ∧ a ≤ 46) → I2 a = I a) : dK I2 n := by
  obtain ⟨h1, h2, h3⟩ := h
  have e8 := e 8 (by omega)
  have e9 := e 9 (by omega)
  have e10 := e 10 (by omega)
  refine ⟨?_, ?_, h3.1, fun r hr => ?_⟩
  · rw [show fO I2 = fO I by unfold fO; rw [e8], show fP I2 = fP I by unfold fP; rw [e9], show fL I2 = fL I by unfold fL; rw [e10]]
    exact dG_cd h1 (fun g hg => by unfold fD; rw [e (35 + g) (by omega)])
  · rw [show fO I2 = fO I by unfold fO; rw [e8], show fP I2 = fP I by unfold fP; rw [e9], show fL I2 = fL I by unfold fL; rw [e10]]
    exact h2
  · rw [e8, e9]
    exact h3.2 r hr
theorem mF_x {I I2 : wI} (h : mF I) (e : ∀ a, (35 ≤ a ∧ a ≤ 46) ∨ a = 55 → I2 a = I a) : mF I2 := fun a b ha hb => by
  rw [e 55 (by omega), e (35 + a) (by omega)]
  exact h a b ha hb
