/-! nodes: the answer, and what stays -/
def lq_ (w : Nat) : Nat := if w = 0 then 10 else 7
def nd_ (w o : Nat) (f : Nat → Nat) : Nat := lv2_ (fn_ w o f) (lq_ w) (lq_ w)
def sc_ (σ τ : sg) : Prop := ∀ b, b ≠ 4 → b ≠ 24 → b ≠ 25 → b ≠ 26 → b ≠ 27 → τ b = σ b
theorem sc_jt (σ : sg) (w o : Nat) (G Z O : Nat → Nat) (m : Nat) (G' : Nat → Nat) : sc_ σ (jt_ (dg_ σ w o G) Z O m G') := by
  intro b h4 h24 h25 h26 h27
  unfold jt_ dg_ us
  rw [ua_ne h4, ua_ne h27, ua_ne h26, ua_ne h25, ua_ne h25, ua_ne h4, ua_ne h24]
theorem nd_of (w o : Nat) (f old : Nat → Nat) (hq : 2 ^ lq_ w = rw_ w) : lv2_ (fun k => if k < rw_ w then fn_ w o f k else old k) (lq_ w) (lq_ w) = nd_ w o f := by
  refine lv2_cg (fun k hk => ?_)
  rw [hq] at hk
  rw [if_pos hk]
/-! the reference's program, its relation as a table, flags -/
def mo_ (σ : sg) : sg := fun a => σ (a + 24)
def rx_ (C : rl_) (a b : Nat) : Bool := a == b || C a b
def rch_ (C : rl_) (k : Nat) : Nat := (rx_ C (k / 4) (k % 4)).toNat
theorem rch_at (C : rl_) {a b : Nat} (hb : b < 4) : rch_ C (4 * a + b) = (rx_ C a b).toNat := by
  unfold rch_
  rw [show (4 * a + b) / 4 = a by omega, show (4 * a + b) % 4 = b by omega]
theorem rx_gp (C : rl_) (a b : Nat) : (rx_ C a b && rx_ C b a) = gp_ C a b := by
  unfold rx_ gp_
  by_cases e : a = b
  · subst e; simp
  · have e1 : (a == b) = false := by rw [← Bool.not_eq_true, beq_iff_eq]; exact e
    have e2 : (b == a) = false := by rw [← Bool.not_eq_true, beq_iff_eq]; exact fun z => e z.symm
    rw [e1, e2]; rfl
theorem rx_step (m : Nat) (C : rl_) (a b : Nat) : (rx_ C a b || (rx_ C a m && rx_ C m b)) = rx_ (w1_ m C) a b := by
  unfold rx_ w1_
  by_cases e1 : a = m
  · subst e1
    rw [beq_self_eq_true]
    cases (a == b) <;> cases C a b <;> cases C a a <;> rfl
  · have q1 : (a == m) = false := by rw [← Bool.not_eq_true, beq_iff_eq]; exact e1
    by_cases e2 : m = b
    · subst e2
      rw [beq_self_eq_true, q1]
      cases C a m <;> cases C m m <;> rfl
    · have q2 : (m == b) = false := by rw [← Bool.not_eq_true, beq_iff_eq]; exact e2
      rw [q1, q2]
      cases (a == b) <;> cases C a b <;> cases C a m <;> cases C m b <;> rfl
theorem rx_col (m : Nat) (C : rl_) (a : Nat) : rx_ (w1_ m C) a m = rx_ C a m := by
  unfold rx_ w1_
  cases (a == m) <;> cases C a m <;> cases C m m <;> rfl
theorem rx_row (m : Nat) (C : rl_) (b : Nat) : rx_ (w1_ m C) m b = rx_ C m b := by
  unfold rx_
  rw [w1_row]
theorem rx_c0 {t : sg} {i a b : Nat} : rx_ (c0_ t (i + 1)) a b = (rx_ (c0_ t i) a b || (t 11 i == a && t 12 i == b)) := by
  unfold rx_
  show (a == b || (c0_ t i a b || (t 11 i == a && t 12 i == b))) = _
  rw [Bool.or_assoc]
theorem rx_cg {C C' : rl_} (h : ∀ a b, b < 4 → C a b = C' a b) {a b : Nat} (hb : b < 4) : rx_ C a b = rx_ C' a b := by
  unfold rx_
  rw [h a b hb]
/-- a step whose flag only rises -/
def fq_ (f : rs_ → rs_) : Prop := ∀ p h g, f (p, h, g) = ((f (p, h, 0)).1, (f (p, h, 0)).2.1, if (f (p, h, 0)).2.2 = 0 then g else 1)
theorem fq_id : fq_ (fun s => s) := fun p h g => by
  show ((p, h, g) : rs_) = (p, h, if (0 : Nat) = 0 then g else 1)
  rw [if_pos rfl]
theorem fq_ad {w : Nat → Nat} {c v x : Nat} : fq_ (ad_ w c v x) := fun p h g => by
  by_cases e : p (c * 16 + v) ||| (x &&& w v) = p (c * 16 + v)
  · simp [ad_, e]
  · simp [ad_, e]
theorem fq_h1 {f x h : Nat} : fq_ (h1_ f x h) := fun p q g => by
  by_cases e : q (h * 2 + f) ||| x = q (h * 2 + f)
  · simp [h1_, e]
  · simp [h1_, e]
theorem fq_comp {f1 f2 : rs_ → rs_} (h1 : fq_ f1) (h2 : fq_ f2) : fq_ (fun s => f2 (f1 s)) := fun p h g => by
  have e1 := h1 p h g
  show f2 (f1 (p, h, g)) = ((f2 (f1 (p, h, 0))).1, (f2 (f1 (p, h, 0))).2.1, if (f2 (f1 (p, h, 0))).2.2 = 0 then g else 1)
  rw [e1]
  obtain ⟨p1, q1, g1⟩ := f1 (p, h, 0)
  show f2 (p1, q1, if g1 = 0 then g else 1) = ((f2 (p1, q1, g1)).1, (f2 (p1, q1, g1)).2.1, if (f2 (p1, q1, g1)).2.2 = 0 then g else 1)
  rw [h2 p1 q1 (if g1 = 0 then g else 1), h2 p1 q1 g1]
  obtain ⟨p2, q2, g2⟩ := f2 (p1, q1, 0)
  show ((p2, q2, if g2 = 0 then (if g1 = 0 then g else 1) else 1) : rs_) = (p2, q2, if (if g2 = 0 then g1 else 1) = 0 then g else 1)
  by_cases z2 : g2 = 0
  · rw [if_pos z2, if_pos z2]
  · rw [if_neg z2, if_neg z2, if_neg (by decide)]
theorem fq_it {f : Nat → rs_ → rs_} (h : ∀ k, fq_ (f k)) : ∀ n, fq_ (it_ f n)
  | 0 => fq_id
  | n + 1 => fq_comp (f1 := it_ f n) (f2 := f n) (fq_it h n) (h n)
theorem fq_hs {set f x n : Nat} : fq_ (hs_ set f x n) := fq_it (fun k p h g => by
  show (if set.testBit k = true then h1_ f x k (p, h, g) else (p, h, g)) = ((if set.testBit k = true then h1_ f x k (p, h, 0) else (p, h, 0)).1, (if set.testBit k = true then h1_ f x k (p, h, 0) else (p, h, 0)).2.1, if (if set.testBit k = true then h1_ f x k (p, h, 0) else (p, h, 0)).2.2 = 0 then g else 1)
  by_cases e : set.testBit k = true
  · rw [if_pos e, if_pos e]; exact fq_h1 p h g
  · rw [if_neg e, if_neg e]; exact fq_id p h g) n
theorem fq_sx {t : sg} {w : Nat → Nat} {k c : Nat} : fq_ (sx_ t w k c) := fun p h g => by
  unfold sx_
  by_cases e0 : t 7 k = 0
  · rw [if_pos e0, if_pos e0]; exact fq_ad p h g
  · rw [if_neg e0, if_neg e0]
    by_cases e1 : t 7 k = 1
    · rw [if_pos e1, if_pos e1]; exact fq_ad p h g
    · rw [if_neg e1, if_neg e1]
      by_cases e2 : t 7 k = 2
      · rw [if_pos e2, if_pos e2]; exact fq_hs p h g
      · rw [if_neg e2, if_neg e2]; exact fq_ad p h g
theorem fq_pa {t : sg} {w : Nat → Nat} {c d q : Nat} : fq_ (pa_ t w c d q) := fun p h g => by
  unfold pa_
  by_cases e : t 16 q = 0
  · rw [if_pos e, if_pos e]; exact fq_ad p h g
  · rw [if_neg e, if_neg e]; exact fq_ad p h g
theorem fq_pp {t : sg} {w : Nat → Nat} {k c d n : Nat} : fq_ (pp_ t w k c d n) := fq_it (fun _ => fq_pa) n
/-- the reference's relations in their cells -/
def mg_ (σ : sg) (g : Nat) : rs_ := (σ 46, σ 47, g)
def mr_ (σ : sg) (r : rs_) : sg := ua (ua σ 46 r.1) 47 r.2.1
theorem mr_mr (σ : sg) (r r' : rs_) : mr_ (mr_ σ r) r' = mr_ σ r' := by
  funext b
  unfold mr_
  by_cases h47 : b = 47
  · subst h47; rw [ua_eq, ua_eq]
  · rw [ua_ne h47, ua_ne h47]
    by_cases h46 : b = 46
    · subst h46; rw [ua_eq, ua_eq]
    · rw [ua_ne h46, ua_ne h46, ua_ne h47, ua_ne h46]
theorem mr_mg (σ : sg) (g : Nat) : mr_ σ (mg_ σ g) = σ := by
  funext b
  unfold mr_ mg_
  by_cases h47 : b = 47
  · subst h47; rw [ua_eq]
  · rw [ua_ne h47]
    by_cases h46 : b = 46
    · subst h46; rw [ua_eq]
    · rw [ua_ne h46]
theorem mr_46 (σ : sg) (i x : Nat) (h : Nat → Nat) (g : Nat) (hh : h = σ 47) : us σ 46 i x = mr_ σ (va_up (σ 46) i x, h, g) := by
  subst hh
  funext b
  unfold us mr_
  by_cases h47 : b = 47
  · subst h47; rw [ua_eq]; rfl
  · rw [ua_ne h47]
theorem mr_47 (σ : sg) (s : rs_) (i x g : Nat) : us (mr_ σ s) 47 i x = mr_ σ (s.1, va_up s.2.1 i x, g) := by
  funext b
  unfold us
  by_cases h47 : b = 47
  · subst h47; rw [ua_eq]; rfl
  · rw [ua_ne h47]
    unfold mr_
    rw [ua_ne h47, ua_ne h47]
