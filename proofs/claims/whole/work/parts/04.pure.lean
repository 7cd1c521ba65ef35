/-! sums, iterations -/
def sm_ (f : Nat → Nat) : Nat → Nat
  | 0 => 0
  | n + 1 => sm_ f n + f n
def it_ {α : Type} (f : Nat → α → α) : Nat → α → α
  | 0, a => a
  | n + 1, a => f n (it_ f n a)
theorem sm_le {f g : Nat → Nat} : ∀ n, (∀ k, k < n → f k ≤ g k) → sm_ f n ≤ sm_ g n
  | 0, _ => Nat.le_refl _
  | n + 1, h => Nat.add_le_add (sm_le n (fun k hk => h k (by omega))) (h n (by omega))
theorem sm_lt {f g : Nat → Nat} : ∀ n j, j < n → (∀ k, k < n → f k ≤ g k) → f j < g j → sm_ f n < sm_ g n
  | 0, _, hj, _, _ => by omega
  | n + 1, j, hj, h, hl => by
    have h1 := h n (by omega)
    by_cases e : j = n
    · subst e
      have h2 := sm_le j (fun k hk => h k (by omega))
      show sm_ f j + f j < sm_ g j + g j
      omega
    · have h2 := sm_lt n j (by omega) (fun k hk => h k (by omega)) hl
      show sm_ f n + f n < sm_ g n + g n
      omega
theorem sm_eq {f g : Nat → Nat} : ∀ n, (∀ k, k < n → f k = g k) → sm_ f n = sm_ g n
  | 0, _ => rfl
  | n + 1, h => by
    show sm_ f n + f n = sm_ g n + g n
    rw [sm_eq n (fun k hk => h k (by omega)), h n (by omega)]
theorem sm_cap {f : Nat → Nat} {b : Nat} : ∀ n, (∀ k, k < n → f k ≤ b) → sm_ f n ≤ n * b
  | 0, _ => Nat.zero_le _
  | n + 1, h => by
    have h1 := sm_cap n (fun k hk => h k (by omega))
    have h2 := h n (by omega)
    show sm_ f n + f n ≤ (n + 1) * b
    rw [Nat.succ_mul]
    omega
theorem sm_up {q : Nat → Nat} {p : Nat → Nat} {i x : Nat} : ∀ n, i < n → sm_ (fun k => q (va_up p i x k)) n + q (p i) = sm_ (fun k => q (p k)) n + q x
  | 0, h => by omega
  | n + 1, h => by
    show sm_ (fun k => q (va_up p i x k)) n + q (va_up p i x n) + q (p i) = sm_ (fun k => q (p k)) n + q (p n) + q x
    by_cases e : i = n
    · subst e
      have h1 : sm_ (fun k => q (va_up p i x k)) i = sm_ (fun k => q (p k)) i := sm_eq i (fun k hk => by rw [up_ne (by omega)])
      rw [h1, up_eq]
      omega
    · have h1 := sm_up (q := q) (p := p) (i := i) (x := x) n (by omega)
      rw [up_ne (fun z => e z.symm)]
      omega
/-- how many of the first eight bits are set -/
def pc_ (x : Nat) : Nat := sm_ (fun h => (x.testBit h).toNat) 8
theorem pc_le (x : Nat) : pc_ x ≤ 8 := by
  have h := sm_cap (f := fun h => (x.testBit h).toNat) (b := 1) 8 (fun k _ => by cases x.testBit k <;> decide)
  exact h
theorem or_256 {a b : Nat} (ha : a < 256) (hb : b < 256) : a ||| b < 256 := Nat.or_lt_two_pow (n := 8) ha hb
theorem and_256 {a b : Nat} (hb : b < 256) : a &&& b < 256 := Nat.lt_of_le_of_lt Nat.and_le_right hb
theorem tb_256 {a i : Nat} (ha : a < 256) (hi : 8 ≤ i) : a.testBit i = false := Nat.testBit_lt_two_pow (Nat.lt_of_lt_of_le ha (show 2 ^ 8 ≤ 2 ^ i from Nat.pow_le_pow_right (by decide) hi))
theorem pc_lt {a b : Nat} (ha : a < 256) (hb : b < 256) (h : a ||| b ≠ a) : pc_ a < pc_ (a ||| b) := by
  have h1 : ∃ j, j < 8 ∧ a.testBit j = false ∧ (a ||| b).testBit j = true := by
    refine Classical.byContradiction fun hn => h ?_
    apply Nat.eq_of_testBit_eq
    intro i
    by_cases hi : i < 8
    · cases ea : a.testBit i with
      | true => rw [Nat.testBit_or, ea]; rfl
      | false =>
        cases eb : (a ||| b).testBit i with
        | false => rfl
        | true => exact absurd ⟨i, hi, ea, eb⟩ hn
    · rw [tb_256 ha (by omega), tb_256 (or_256 ha hb) (by omega)]
  obtain ⟨j, hj, e1, e2⟩ := h1
  refine sm_lt 8 j hj (fun k _ => ?_) ?_
  · show (a.testBit k).toNat ≤ ((a ||| b).testBit k).toNat
    rw [Nat.testBit_or]
    cases a.testBit k <;> cases b.testBit k <;> decide
  · show (a.testBit j).toNat < ((a ||| b).testBit j).toNat
    rw [e1, e2]
    decide
/-! the relations: points, holds, a flag -/
abbrev rs_ : Type := (Nat → Nat) × (Nat → Nat) × Nat
def ad_ (w : Nat → Nat) (c v x : Nat) (s : rs_) : rs_ := (va_up s.1 (c * 16 + v) (s.1 (c * 16 + v) ||| (x &&& w v)), s.2.1, if s.1 (c * 16 + v) ||| (x &&& w v) = s.1 (c * 16 + v) then s.2.2 else 1)
def h1_ (f x h : Nat) (s : rs_) : rs_ := (s.1, va_up s.2.1 (h * 2 + f) (s.2.1 (h * 2 + f) ||| x), if s.2.1 (h * 2 + f) ||| x = s.2.1 (h * 2 + f) then s.2.2 else 1)
def hs_ (set f x : Nat) : Nat → rs_ → rs_ := it_ (fun h s => if set.testBit h = true then h1_ f x h s else s)
def ha_ (hl : Nat → Nat) (set f : Nat) : Nat → Nat
  | 0 => 0
  | h + 1 => ha_ hl set f h ||| (if set.testBit h = true then hl (h * 2 + f) else 0)
def sx_ (t : sg) (w : Nat → Nat) (k c : Nat) (s : rs_) : rs_ :=
  if t 7 k = 0 then ad_ w c (t 8 k) (1 * 2 ^ t 9 k) s
  else if t 7 k = 1 then ad_ w c (t 8 k) (s.1 (c * 16 + t 9 k)) s
  else if t 7 k = 2 then hs_ (s.1 (c * 16 + t 8 k)) (t 10 k) (s.1 (c * 16 + t 9 k)) 8 s
  else ad_ w c (t 8 k) (ha_ s.2.1 (s.1 (c * 16 + t 9 k)) (t 10 k) 8) s
def ss_ (t : sg) (w mn : Nat → Nat) (n : Nat) (s : rs_) : rs_ := it_ (fun k => it_ (sx_ t w k) (mn (t 8 k / 4))) n s
def pa_ (t : sg) (w : Nat → Nat) (c d q : Nat) (s : rs_) : rs_ := if t 16 q = 0 then ad_ w d (t 14 q) (s.1 (c * 16 + t 15 q)) s else ad_ w c (t 14 q) (s.1 (d * 16 + t 15 q)) s
def pp_ (t : sg) (w : Nat → Nat) (k c d n : Nat) (s : rs_) : rs_ := it_ (fun j => pa_ t w c d (k * 4 + j)) n s
def cs_ (t : sg) (w mn bs : Nat → Nat) (n : Nat) (s : rs_) : rs_ := it_ (fun k => it_ (fun c => pp_ t w k c (bs k + c) (t 13 k)) (mn (t 11 k))) n s
def rd_ (t : sg) (w mn bs : Nat → Nat) (ns nc : Nat) (s : rs_) : rs_ := cs_ t w mn bs nc (ss_ t w mn ns (s.1, s.2.1, 0))
def lo_ (f : rs_ → rs_) : Nat → rs_ → rs_
  | 0, s => s
  | n + 1, s => if s.2.2 = 0 then s else lo_ f n (f s)
def wt_ (s : rs_) : Nat := sm_ (fun k => pc_ (s.1 k)) 128 + sm_ (fun k => pc_ (s.2.1 k)) 16
def B_ (s : rs_) : Prop := (∀ k, s.1 k < 256) ∧ ∀ k, s.2.1 k < 256
theorem wt_le (s : rs_) : wt_ s ≤ 1152 := by
  have h1 := sm_cap (f := fun k => pc_ (s.1 k)) (b := 8) 128 (fun k _ => pc_le _)
  have h2 := sm_cap (f := fun k => pc_ (s.2.1 k)) (b := 8) 16 (fun k _ => pc_le _)
  unfold wt_
  omega
/-- a step: nothing, or the flag is up and there is more -/
def gs_ (s s' : rs_) : Prop := s' = s ∨ (s'.2.2 = 1 ∧ wt_ s < wt_ s')
theorem gs_tr {a b d : rs_} (h1 : gs_ a b) (h2 : gs_ b d) : gs_ a d := by
  rcases h1 with h1 | ⟨f1, w1⟩
  · subst h1; exact h2
  · rcases h2 with h2 | ⟨f2, w2⟩
    · subst h2; exact Or.inr ⟨f1, w1⟩
    · exact Or.inr ⟨f2, by omega⟩
theorem it_gs {f : Nat → rs_ → rs_} (h : ∀ k s, B_ s → gs_ s (f k s) ∧ B_ (f k s)) : ∀ n s, B_ s → gs_ s (it_ f n s) ∧ B_ (it_ f n s)
  | 0, s, hs => ⟨Or.inl rfl, hs⟩
  | n + 1, s, hs => by
    obtain ⟨g1, b1⟩ := it_gs h n s hs
    obtain ⟨g2, b2⟩ := h n _ b1
    exact ⟨gs_tr g1 g2, b2⟩
theorem it_gsL {f : Nat → rs_ → rs_} : ∀ n, (∀ k, k < n → ∀ s, B_ s → gs_ s (f k s) ∧ B_ (f k s)) → ∀ s, B_ s → gs_ s (it_ f n s) ∧ B_ (it_ f n s)
  | 0, _, s, hs => ⟨Or.inl rfl, hs⟩
  | n + 1, h, s, hs => by
    obtain ⟨g1, b1⟩ := it_gsL n (fun k hk => h k (by omega)) s hs
    obtain ⟨g2, b2⟩ := h n (by omega) _ b1
    exact ⟨gs_tr g1 g2, b2⟩
theorem up_256 {f : Nat → Nat} {i x : Nat} (hf : ∀ k, f k < 256) (hx : x < 256) : ∀ k, va_up f i x k < 256 := by
  intro k
  by_cases h : k = i
  · subst h; rw [up_eq]; exact hx
  · rw [up_ne h]; exact hf k
theorem ad_gs {w : Nat → Nat} {c v x : Nat} {s : rs_} (hw : ∀ k, w k < 256) (hi : c * 16 + v < 128) (hs : B_ s) : gs_ s (ad_ w c v x s) ∧ B_ (ad_ w c v x s) := by
  obtain ⟨p, h, g⟩ := s
  have hx : x &&& w v < 256 := and_256 (hw v)
  have hp : p (c * 16 + v) < 256 := hs.1 _
  refine ⟨?_, ⟨up_256 hs.1 (or_256 hp hx), hs.2⟩⟩
  by_cases e : p (c * 16 + v) ||| (x &&& w v) = p (c * 16 + v)
  · left
    show ((va_up p (c * 16 + v) (p (c * 16 + v) ||| (x &&& w v)), h, if p (c * 16 + v) ||| (x &&& w v) = p (c * 16 + v) then g else 1) : rs_) = (p, h, g)
    rw [if_pos e, e, up_id]
  · right
    refine ⟨if_neg e, ?_⟩
    have h1 := pc_lt hp hx e
    have h2 := sm_up (q := pc_) (p := p) (i := c * 16 + v) (x := p (c * 16 + v) ||| (x &&& w v)) 128 hi
    show sm_ (fun k => pc_ (p k)) 128 + sm_ (fun k => pc_ (h k)) 16 < sm_ (fun k => pc_ (va_up p (c * 16 + v) (p (c * 16 + v) ||| (x &&& w v)) k)) 128 + sm_ (fun k => pc_ (h k)) 16
    omega
theorem h1_gs {f x h : Nat} {s : rs_} (hx : x < 256) (hi : h * 2 + f < 16) (hs : B_ s) : gs_ s (h1_ f x h s) ∧ B_ (h1_ f x h s) := by
  obtain ⟨p, q, g⟩ := s
  have hq : q (h * 2 + f) < 256 := hs.2 _
  refine ⟨?_, ⟨hs.1, up_256 hs.2 (or_256 hq hx)⟩⟩
  by_cases e : q (h * 2 + f) ||| x = q (h * 2 + f)
  · left
    show ((p, va_up q (h * 2 + f) (q (h * 2 + f) ||| x), if q (h * 2 + f) ||| x = q (h * 2 + f) then g else 1) : rs_) = (p, q, g)
    rw [if_pos e, e, up_id]
  · right
    refine ⟨if_neg e, ?_⟩
    have h1 := pc_lt hq hx e
    have h2 := sm_up (q := pc_) (p := q) (i := h * 2 + f) (x := q (h * 2 + f) ||| x) 16 hi
    show sm_ (fun k => pc_ (p k)) 128 + sm_ (fun k => pc_ (q k)) 16 < sm_ (fun k => pc_ (p k)) 128 + sm_ (fun k => pc_ (va_up q (h * 2 + f) (q (h * 2 + f) ||| x) k)) 16
    omega
theorem hs_gs {set f x : Nat} {s : rs_} (hx : x < 256) (hf : f < 2) (hs : B_ s) : gs_ s (hs_ set f x 8 s) ∧ B_ (hs_ set f x 8 s) := by
  refine it_gsL 8 (fun k hk s hs => ?_) s hs
  show gs_ s (if set.testBit k = true then h1_ f x k s else s) ∧ B_ (if set.testBit k = true then h1_ f x k s else s)
  by_cases e : set.testBit k = true
  · rw [if_pos e]; exact h1_gs hx (by omega) hs
  · rw [if_neg e]; exact ⟨Or.inl rfl, hs⟩
/-- what has been told, within its bounds -/
def tw_ (t : sg) : Prop := (∀ k, t 5 k < 4) ∧ (∀ k, t 6 k < 16) ∧ (∀ k, t 7 k < 4) ∧ (∀ k, t 8 k < 16) ∧ (∀ k, t 9 k < 16) ∧ (∀ k, t 10 k < 2) ∧ (∀ k, t 11 k < 4) ∧ (∀ k, t 12 k < 4) ∧ (∀ k, t 13 k ≤ 4) ∧ (∀ k, t 14 k < 16) ∧ (∀ k, t 15 k < 16) ∧ ∀ k, t 16 k < 2
theorem sx_gs {t : sg} {w : Nat → Nat} {k c : Nat} {s : rs_} (ht : tw_ t) (hw : ∀ k, w k < 256) (hc : c < 8) (hs : B_ s) : gs_ s (sx_ t w k c s) ∧ B_ (sx_ t w k c s) := by
  obtain ⟨-, -, -, t8, t9, t10, -⟩ := ht
  have h8 := t8 k
  have h9 := t9 k
  unfold sx_
  by_cases e0 : t 7 k = 0
  · rw [if_pos e0]; exact ad_gs hw (by omega) hs
  · rw [if_neg e0]
    by_cases e1 : t 7 k = 1
    · rw [if_pos e1]; exact ad_gs hw (by omega) hs
    · rw [if_neg e1]
      by_cases e2 : t 7 k = 2
      · rw [if_pos e2]; exact hs_gs (hs.1 _) (t10 k) hs
      · rw [if_neg e2]; exact ad_gs hw (by omega) hs
theorem ss_gs {t : sg} {w mn : Nat → Nat} {n : Nat} {s : rs_} (ht : tw_ t) (hw : ∀ k, w k < 256) (hm : ∀ a, a < 4 → mn a ≤ 8) (hs : B_ s) : gs_ s (ss_ t w mn n s) ∧ B_ (ss_ t w mn n s) := by
  refine it_gs (fun k s hs => it_gsL _ (fun c hc s hs => sx_gs ht hw ?_ hs) s hs) n s hs
  have h8 := ht.2.2.2.1 k
  have h1 := hm (t 8 k / 4) (by omega)
  omega
theorem pa_gs {t : sg} {w : Nat → Nat} {c d q : Nat} {s : rs_} (ht : tw_ t) (hw : ∀ k, w k < 256) (hc : c < 8) (hd : d < 8) (hs : B_ s) : gs_ s (pa_ t w c d q s) ∧ B_ (pa_ t w c d q s) := by
  obtain ⟨-, -, -, -, -, -, -, -, -, t14, -⟩ := ht
  have h := t14 q
  unfold pa_
  by_cases e : t 16 q = 0
  · rw [if_pos e]; exact ad_gs hw (by omega) hs
  · rw [if_neg e]; exact ad_gs hw (by omega) hs
theorem cs_gs {t : sg} {w mn bs : Nat → Nat} {n : Nat} {s : rs_} (ht : tw_ t) (hw : ∀ k, w k < 256) (hb : ∀ k, k < n → bs k + mn (t 11 k) ≤ 8) (hs : B_ s) : gs_ s (cs_ t w mn bs n s) ∧ B_ (cs_ t w mn bs n s) := by
  refine it_gsL n (fun k hk s hs => it_gsL _ (fun c hc s hs => ?_) s hs) s hs
  have h1 := hb k hk
  exact it_gs (fun j s hs => pa_gs ht hw (by omega) (by omega) hs) _ s hs
theorem rd_gs {t : sg} {w mn bs : Nat → Nat} {ns nc : Nat} {s : rs_} (ht : tw_ t) (hw : ∀ k, w k < 256) (hm : ∀ a, a < 4 → mn a ≤ 8) (hb : ∀ k, k < nc → bs k + mn (t 11 k) ≤ 8) (hs : B_ s) : gs_ (s.1, s.2.1, 0) (rd_ t w mn bs ns nc s) ∧ B_ (rd_ t w mn bs ns nc s) := by
  have h0 : B_ (s.1, s.2.1, 0) := hs
  obtain ⟨g1, b1⟩ := ss_gs (n := ns) ht hw hm h0
  obtain ⟨g2, b2⟩ := cs_gs (n := nc) ht hw hb b1
  exact ⟨gs_tr g1 g2, b2⟩
theorem lo_0 {f : rs_ → rs_} {s : rs_} (h : s.2.2 = 0) : ∀ n, lo_ f n s = s
  | 0 => rfl
  | n + 1 => if_pos h
theorem lo_eq {f : rs_ → rs_} (hf : ∀ s, B_ s → gs_ (s.1, s.2.1, 0) (f s) ∧ B_ (f s)) : ∀ n m s, B_ s → 1152 < n + wt_ s → 1152 < m + wt_ s → lo_ f n s = lo_ f m s
  | 0, m, s, _, h1, _ => by have := wt_le s; omega
  | n + 1, 0, s, _, _, h2 => by have := wt_le s; omega
  | n + 1, m + 1, s, hs, h1, h2 => by
    show (if s.2.2 = 0 then s else lo_ f n (f s)) = if s.2.2 = 0 then s else lo_ f m (f s)
    by_cases e : s.2.2 = 0
    · rw [if_pos e, if_pos e]
    · rw [if_neg e, if_neg e]
      obtain ⟨g, b⟩ := hf s hs
      rcases g with g | ⟨g1, g2⟩
      · have e0 : (f s).2.2 = 0 := by rw [g]
        rw [lo_0 e0, lo_0 e0]
      · have hw : wt_ (s.1, s.2.1, 0) = wt_ s := rfl
        exact lo_eq hf n m (f s) b (by omega) (by omega)
/-- the class's rounds and the reference's come to the same -/
theorem lo_same {t : sg} {w mn bs : Nat → Nat} {ns nc : Nat} (ht : tw_ t) (hw : ∀ k, w k < 256) (hm : ∀ a, a < 4 → mn a ≤ 8) (hb : ∀ k, k < nc → bs k + mn (t 11 k) ≤ 8) (s : rs_) (hs : B_ s) : lo_ (rd_ t w mn bs ns nc) 1153 s = lo_ (rd_ t w mn bs ns nc) 1200 s :=
  lo_eq (fun s hs => rd_gs ht hw hm hb hs) 1153 1200 s hs (by omega) (by omega)
/-! who reaches whom, and how many contexts -/
abbrev rl_ : Type := Nat → Nat → Bool
def w1_ (m : Nat) (C : rl_) : rl_ := fun a b => C a b || (C a m && C m b)
def wc_ (C : rl_) : rl_ := w1_ 3 (w1_ 2 (w1_ 1 (w1_ 0 C)))
/-- the calls themselves -/
def c0_ (t : sg) : Nat → rl_
  | 0, _, _ => false
  | k + 1, a, b => c0_ t k a b || (t 11 k == a && t 12 k == b)
theorem c0_in {t : sg} : ∀ {n k : Nat}, k < n → c0_ t n (t 11 k) (t 12 k) = true
  | n + 1, k, h => by
    show (c0_ t n (t 11 k) (t 12 k) || (t 11 n == t 11 k && t 12 n == t 12 k)) = true
    by_cases e : k = n
    · subst e; simp
    · rw [c0_in (t := t) (n := n) (k := k) (by omega)]; rfl
theorem w1_up {m : Nat} {C : rl_} {a b : Nat} (h : C a b = true) : w1_ m C a b = true := by unfold w1_; rw [h]; rfl
theorem wc_up {C : rl_} {a b : Nat} (h : C a b = true) : wc_ C a b = true := w1_up (w1_up (w1_up (w1_up h)))
/-- ways through k are ways -/
def th_ (C : rl_) (k : Nat) : Prop := ∀ a b, C a k = true → C k b = true → C a b = true
theorem w1_is {m : Nat} {C : rl_} {a b : Nat} : w1_ m C a b = true ↔ C a b = true ∨ (C a m = true ∧ C m b = true) := by
  unfold w1_
  rw [Bool.or_eq_true, Bool.and_eq_true]
theorem w1_own {m : Nat} {C : rl_} : th_ (w1_ m C) m := by
  intro a b h1 h2
  rw [w1_is] at h1 h2 ⊢
  right
  constructor
  · rcases h1 with h1 | h1
    · exact h1
    · exact h1.1
  · rcases h2 with h2 | h2
    · exact h2
    · exact h2.2
theorem w1_th {m k : Nat} {C : rl_} (h : th_ C k) : th_ (w1_ m C) k := by
  intro a b h1 h2
  rw [w1_is] at h1 h2 ⊢
  rcases h1 with h1 | ⟨h1, h1'⟩
  · rcases h2 with h2 | ⟨h2, h2'⟩
    · exact Or.inl (h a b h1 h2)
    · exact Or.inr ⟨h a m h1 h2, h2'⟩
  · rcases h2 with h2 | ⟨h2, h2'⟩
    · exact Or.inr ⟨h1, h m b h1' h2⟩
    · exact Or.inr ⟨h1, h2'⟩
theorem wc_th (C : rl_) : ∀ k, k < 4 → th_ (wc_ C) k := by
  intro k hk
  have h : k = 0 ∨ k = 1 ∨ k = 2 ∨ k = 3 := by omega
  rcases h with rfl | rfl | rfl | rfl
  · exact w1_th (w1_th (w1_th w1_own))
  · exact w1_th (w1_th w1_own)
  · exact w1_th w1_own
  · exact w1_own
def gp_ (C : rl_) (a b : Nat) : Bool := a == b || (C a b && C b a)
def ou_ (t : sg) (C : rl_) (k : Nat) : Bool := !gp_ C (t 11 k) (t 12 k)
def b1_ (t : sg) (C : rl_) (f : Nat → Nat) (m k : Nat) : Nat := if (ou_ t C k && gp_ C (t 12 k) m) = true then f (t 11 k) else 0
def br_ (t : sg) (C : rl_) (f : Nat → Nat) (m : Nat) : Nat → Nat := sm_ (b1_ t C f m)
def rk_ (C : rl_) (m : Nat) : Nat := sm_ (fun a => (C a m && !C m a).toNat) 4
theorem bn_le (b : Bool) : b.toNat ≤ 1 := by cases b <;> decide
theorem rk_3 (C : rl_) {m : Nat} (hm : m < 4) : rk_ C m ≤ 3 := by
  have e : (C m m && !C m m).toNat = 0 := by cases C m m <;> rfl
  have h0 := bn_le (C 0 m && !C m 0)
  have h1 := bn_le (C 1 m && !C m 1)
  have h2 := bn_le (C 2 m && !C m 2)
  have h3 := bn_le (C 3 m && !C m 3)
  show 0 + (C 0 m && !C m 0).toNat + (C 1 m && !C m 1).toNat + (C 2 m && !C m 2).toNat + (C 3 m && !C m 3).toNat ≤ 3
  have h : m = 0 ∨ m = 1 ∨ m = 2 ∨ m = 3 := by omega
  rcases h with rfl | rfl | rfl | rfl <;> omega
theorem rk_lt {C : rl_} (hT : ∀ k, k < 4 → th_ C k) {a d m : Nat} (ha : a < 4) (hd : d < 4) (hm : m < 4) (h0 : C a d = true) (ho : gp_ C a d = false) (hg : gp_ C d m = true) : rk_ C a < rk_ C m := by
  have had : a ≠ d := by
    intro e
    subst e
    simp [gp_] at ho
  have hda : C d a = false := by
    simp only [gp_, Bool.or_eq_false_iff, h0, Bool.true_and] at ho
    exact ho.2
  have ham : C a m = true := by
    simp only [gp_, Bool.or_eq_true, beq_iff_eq, Bool.and_eq_true] at hg
    rcases hg with rfl | hg
    · exact h0
    · exact hT d hd a m h0 hg.1
  have hma : C m a = false := by
    cases e : C m a with
    | false => rfl
    | true =>
      simp only [gp_, Bool.or_eq_true, beq_iff_eq, Bool.and_eq_true] at hg
      rcases hg with rfl | hg
      · rw [hda] at e; cases e
      · rw [hT m hm d a hg.1 e] at hda; cases hda
  refine sm_lt 4 a ha (fun b hb => ?_) ?_
  · show (C b a && !C a b).toNat ≤ (C b m && !C m b).toNat
    cases e1 : C b a with
    | false => simp
    | true =>
      cases e2 : C a b with
      | true => simp
      | false =>
        have e3 : C b m = true := hT a ha b m e1 ham
        have e4 : C m b = false := by
          cases e : C m b with
          | false => rfl
          | true => rw [hT m hm a b ham e] at e2; cases e2
        rw [e3, e4]
        decide
  · show (C a a && !C a a).toNat < (C a m && !C m a).toNat
    rw [ham, hma]
    cases C a a <;> decide
/-! sweeps come to the one answer -/
def sw_ (Φ : (Nat → Nat) → Nat → Nat) (f : Nat → Nat) : Nat → Nat → Nat := fun n => it_ (fun m f => va_up f m (Φ f m)) n f
def lc_ (r : Nat → Nat) (Φ : (Nat → Nat) → Nat → Nat) : Prop := ∀ f g m, m < 4 → (∀ a, a < 4 → r a < r m → f a = g a) → Φ f m = Φ g m
theorem sw_in {r : Nat → Nat} {Φ : (Nat → Nat) → Nat → Nat} (hΦ : lc_ r Φ) {S : Nat → Nat} (hS : ∀ m, m < 4 → S m = Φ S m) {f : Nat → Nat} {d : Nat} (hf : ∀ a, a < 4 → r a < d → f a = S a) : ∀ n, n ≤ 4 → (∀ a, a < 4 → r a < d → sw_ Φ f n a = S a) ∧ ∀ a, a < n → r a < d + 1 → sw_ Φ f n a = S a
  | 0, _ => ⟨hf, fun a ha => by omega⟩
  | n + 1, hn => by
    obtain ⟨h1, h2⟩ := sw_in hΦ hS hf n (by omega)
    have key : r n < d + 1 → Φ (sw_ Φ f n) n = S n := fun hr => by
      rw [hS n (by omega)]
      exact hΦ _ _ n (by omega) (fun a ha hl => h1 a ha (by omega))
    refine ⟨fun a ha hr => ?_, fun a ha hr => ?_⟩
    · show va_up (sw_ Φ f n) n (Φ (sw_ Φ f n) n) a = S a
      by_cases e : a = n
      · subst e; rw [up_eq]; exact key (by omega)
      · rw [up_ne e]; exact h1 a ha hr
    · show va_up (sw_ Φ f n) n (Φ (sw_ Φ f n) n) a = S a
      by_cases e : a = n
      · subst e; rw [up_eq]; exact key hr
      · rw [up_ne e]; exact h2 a (by omega) hr
def sn_ (Φ : (Nat → Nat) → Nat → Nat) (f : Nat → Nat) : Nat → Nat → Nat := fun n => it_ (fun _ f => sw_ Φ f 4) n f
theorem sn_in {r : Nat → Nat} {Φ : (Nat → Nat) → Nat → Nat} (hΦ : lc_ r Φ) {S : Nat → Nat} (hS : ∀ m, m < 4 → S m = Φ S m) (f : Nat → Nat) : ∀ n a, a < 4 → r a < n → sn_ Φ f n a = S a
  | 0, _, _, h => by omega
  | n + 1, a, ha, h => (sw_in hΦ hS (fun a ha h => sn_in hΦ hS f n a ha h) 4 (Nat.le_refl _)).2 a ha h
/-- there is an answer -/
def jc_ (Φ : (Nat → Nat) → Nat → Nat) : Nat → Nat → Nat
  | 0 => fun _ => 1
  | n + 1 => Φ (jc_ Φ n)
theorem jc_st {r : Nat → Nat} {Φ : (Nat → Nat) → Nat → Nat} (hΦ : lc_ r Φ) : ∀ n a, a < 4 → r a < n → jc_ Φ n a = jc_ Φ (n + 1) a
  | 0, _, _, h => by omega
  | n + 1, a, ha, h => hΦ _ _ a ha (fun b hb hl => jc_st hΦ n b hb (by omega))
theorem jc_fix {r : Nat → Nat} {Φ : (Nat → Nat) → Nat → Nat} (hΦ : lc_ r Φ) (hr : ∀ a, a < 4 → r a ≤ 3) : ∀ m, m < 4 → jc_ Φ 4 m = Φ (jc_ Φ 4) m := fun m hm => jc_st hΦ 4 m hm (by have := hr m hm; omega)
/-! the two ways to count -/
def f1_ (t : sg) (C : rl_) (nc : Nat) (f : Nat → Nat) (m : Nat) : Nat := max 1 (br_ t C f m nc)
def cl9 (n : Nat) : Nat := if n = 0 then 1 else if 9 < n then 9 else n
def f2_ (t : sg) (C : rl_) (nc : Nat) (f : Nat → Nat) (m : Nat) : Nat := cl9 (br_ t C f m nc)
/-- the calls lie in C, methods are four, C has its ways -/
def ok_ (t : sg) (C : rl_) (nc : Nat) : Prop := (∀ k, t 11 k < 4) ∧ (∀ k, t 12 k < 4) ∧ (∀ k, k < nc → C (t 11 k) (t 12 k) = true) ∧ ∀ k, k < 4 → th_ C k
theorem ok_wc {t : sg} (h1 : ∀ k, t 11 k < 4) (h2 : ∀ k, t 12 k < 4) (nc : Nat) : ok_ t (wc_ (c0_ t nc)) nc := ⟨h1, h2, fun _ hk => wc_up (c0_in hk), wc_th _⟩
theorem b1_rk {t : sg} {C : rl_} {nc : Nat} (h : ok_ t C nc) {m k : Nat} (hm : m < 4) (hk : k < nc) (ho : (ou_ t C k && gp_ C (t 12 k) m) = true) : rk_ C (t 11 k) < rk_ C m := by
  rw [Bool.and_eq_true] at ho
  refine rk_lt h.2.2.2 (h.1 k) (h.2.1 k) hm (h.2.2.1 k hk) ?_ ho.2
  have := ho.1
  simpa [ou_] using this
theorem br_loc {t : sg} {C : rl_} {nc : Nat} (h : ok_ t C nc) {f g : Nat → Nat} {m : Nat} (hm : m < 4) (hfg : ∀ a, a < 4 → rk_ C a < rk_ C m → f a = g a) : br_ t C f m nc = br_ t C g m nc := by
  refine sm_eq nc (fun k hk => ?_)
  unfold b1_
  by_cases e : (ou_ t C k && gp_ C (t 12 k) m) = true
  · rw [if_pos e, if_pos e]; exact hfg _ (h.1 k) (b1_rk h hm hk e)
  · rw [if_neg e, if_neg e]
theorem f1_lc {t : sg} {C : rl_} {nc : Nat} (h : ok_ t C nc) : lc_ (rk_ C) (f1_ t C nc) := fun f g m hm hfg => by unfold f1_; rw [br_loc h hm hfg]
theorem f2_lc {t : sg} {C : rl_} {nc : Nat} (h : ok_ t C nc) : lc_ (rk_ C) (f2_ t C nc) := fun f g m hm hfg => by unfold f2_; rw [br_loc h hm hfg]
def so_ (t : sg) (C : rl_) (nc : Nat) : Nat → Nat := jc_ (f1_ t C nc) 4
theorem so_1 {t : sg} {C : rl_} {nc : Nat} (h : ok_ t C nc) : ∀ m, m < 4 → so_ t C nc m = f1_ t C nc (so_ t C nc) m := jc_fix (f1_lc h) (fun a ha => rk_3 C ha)
theorem br_9 {t : sg} {C : rl_} {f : Nat → Nat} {m : Nat} : ∀ n, br_ t C (fun a => min 9 (f a)) m n = br_ t C f m n ∨ (9 ≤ br_ t C (fun a => min 9 (f a)) m n ∧ br_ t C (fun a => min 9 (f a)) m n ≤ br_ t C f m n)
  | 0 => Or.inl rfl
  | n + 1 => by
    have ih := br_9 (t := t) (C := C) (f := f) (m := m) n
    have e1 : br_ t C (fun a => min 9 (f a)) m (n + 1) = br_ t C (fun a => min 9 (f a)) m n + b1_ t C (fun a => min 9 (f a)) m n := rfl
    have e2 : br_ t C f m (n + 1) = br_ t C f m n + b1_ t C f m n := rfl
    rw [e1, e2]
    have e3 : b1_ t C (fun a => min 9 (f a)) m n = b1_ t C f m n ∨ (b1_ t C (fun a => min 9 (f a)) m n = 9 ∧ 9 ≤ b1_ t C f m n) := by
      unfold b1_
      by_cases e : (ou_ t C n && gp_ C (t 12 n) m) = true
      · rw [if_pos e, if_pos e]
        show min 9 (f (t 11 n)) = f (t 11 n) ∨ (min 9 (f (t 11 n)) = 9 ∧ 9 ≤ f (t 11 n))
        omega
      · rw [if_neg e, if_neg e]; exact Or.inl rfl
    omega
theorem so_2 {t : sg} {C : rl_} {nc : Nat} (h : ok_ t C nc) : ∀ m, m < 4 → min 9 (so_ t C nc m) = f2_ t C nc (fun a => min 9 (so_ t C nc a)) m := by
  intro m hm
  have h1 := so_1 h m hm
  have h2 := br_9 (t := t) (C := C) (f := so_ t C nc) (m := m) nc
  unfold f1_ at h1
  unfold f2_ cl9
  generalize br_ t C (so_ t C nc) m nc = A at h1 h2
  generalize br_ t C (fun a => min 9 (so_ t C nc a)) m nc = B at h2 ⊢
  rw [h1]
  by_cases e0 : B = 0
  · rw [if_pos e0]; omega
  · rw [if_neg e0]
    by_cases e9 : 9 < B
    · rw [if_pos e9]; omega
    · rw [if_neg e9]; omega
theorem sn_1 {t : sg} {C : rl_} {nc : Nat} (h : ok_ t C nc) (f : Nat → Nat) {a : Nat} (ha : a < 4) : sn_ (f1_ t C nc) f 4 a = so_ t C nc a := sn_in (f1_lc h) (so_1 h) f 4 a ha (by have := rk_3 C ha; omega)
theorem sn_2 {t : sg} {C : rl_} {nc : Nat} (h : ok_ t C nc) (f : Nat → Nat) {a : Nat} (ha : a < 4) : sn_ (f2_ t C nc) f 5 a = min 9 (so_ t C nc a) := sn_in (f2_lc h) (so_2 h) f 5 a ha (by have := rk_3 C ha; omega)
/-! bounds -/
def hb_ (C : rl_) (f : Nat → Nat) : Prop := ∀ a, a < 4 → f a ≤ 8 ^ rk_ C a
theorem pw_le {C : rl_} {m : Nat} (hm : m < 4) : 8 ^ rk_ C m ≤ 512 := by
  have h := Nat.pow_le_pow_right (show 0 < 8 by decide) (rk_3 C hm)
  exact h
theorem br_b8 {t : sg} {C : rl_} {nc : Nat} (h : ok_ t C nc) {f : Nat → Nat} (hf : hb_ C f) {m : Nat} (hm : m < 4) : ∀ n, n ≤ nc → 8 * br_ t C f m n ≤ n * 8 ^ rk_ C m
  | 0, _ => Nat.zero_le _
  | n + 1, hn => by
    have ih := br_b8 h hf hm n (by omega)
    have e2 : br_ t C f m (n + 1) = br_ t C f m n + b1_ t C f m n := rfl
    have e3 : 8 * b1_ t C f m n ≤ 8 ^ rk_ C m := by
      unfold b1_
      by_cases e : (ou_ t C n && gp_ C (t 12 n) m) = true
      · rw [if_pos e]
        have h1 := b1_rk h hm (by omega) e
        have h2 := hf _ (h.1 n)
        have h3 : 8 ^ (rk_ C (t 11 n) + 1) ≤ 8 ^ rk_ C m := Nat.pow_le_pow_right (by decide) h1
        rw [Nat.pow_succ] at h3
        omega
      · rw [if_neg e]; exact Nat.zero_le _
    have e4 : (n + 1) * 8 ^ rk_ C m = n * 8 ^ rk_ C m + 8 ^ rk_ C m := Nat.succ_mul _ _
    rw [e2, e4]
    generalize 8 ^ rk_ C m = W at ih e3 ⊢
    generalize n * W = Y at ih ⊢
    omega
theorem br_b {t : sg} {C : rl_} {nc : Nat} (h : ok_ t C nc) (h8 : nc ≤ 8) {f : Nat → Nat} (hf : hb_ C f) {m : Nat} (hm : m < 4) {n : Nat} (hn : n ≤ nc) : br_ t C f m n ≤ 8 ^ rk_ C m := by
  have h1 := br_b8 h hf hm n hn
  have h2 : n * 8 ^ rk_ C m ≤ 8 * 8 ^ rk_ C m := Nat.mul_le_mul_right _ (by omega)
  omega
theorem f1_b {t : sg} {C : rl_} {nc : Nat} (h : ok_ t C nc) (h8 : nc ≤ 8) {f : Nat → Nat} (hf : hb_ C f) {m : Nat} (hm : m < 4) : f1_ t C nc f m ≤ 8 ^ rk_ C m := by
  have h1 := br_b h h8 hf hm (Nat.le_refl nc)
  have h2 : 1 ≤ 8 ^ rk_ C m := Nat.one_le_pow _ _ (by decide)
  unfold f1_
  omega
theorem hb_up {C : rl_} {f : Nat → Nat} {m x : Nat} (hf : hb_ C f) (hx : x ≤ 8 ^ rk_ C m) : hb_ C (va_up f m x) := by
  intro a ha
  by_cases e : a = m
  · subst e; rw [up_eq]; exact hx
  · rw [up_ne e]; exact hf a ha
theorem gp_self (C : rl_) (a : Nat) : gp_ C a a = true := by simp [gp_]
theorem br_mono {t : sg} {C : rl_} {f : Nat → Nat} {m : Nat} : ∀ {n k : Nat}, k ≤ n → br_ t C f m k ≤ br_ t C f m n
  | 0, k, h => by
    obtain rfl : k = 0 := by omega
    exact Nat.le_refl _
  | n + 1, k, h => by
    by_cases e : k = n + 1
    · subst e; exact Nat.le_refl _
    · have h1 := br_mono (t := t) (C := C) (f := f) (m := m) (n := n) (k := k) (by omega)
      exact Nat.le_trans h1 (Nat.le_add_right _ _)
/-- what a call's first context is -/
def ba_ (t : sg) (C : rl_) (f : Nat → Nat) (k : Nat) : Nat := if ou_ t C k = true then br_ t C f (t 12 k) k else 0
theorem ba_8 {t : sg} {C : rl_} {nc : Nat} (h : ok_ t C nc) (hg : ∀ m, m < 4 → so_ t C nc m ≤ 8) {k : Nat} (hk : k < nc) : ba_ t C (so_ t C nc) k + so_ t C nc (t 11 k) ≤ 8 := by
  unfold ba_
  by_cases e : ou_ t C k = true
  · rw [if_pos e]
    have h1 := so_1 h (t 12 k) (h.2.1 k)
    have h2 := hg (t 12 k) (h.2.1 k)
    have h3 := br_mono (t := t) (C := C) (f := so_ t C nc) (m := t 12 k) (n := nc) (k := k + 1) (by omega)
    have h4 : br_ t C (so_ t C nc) (t 12 k) (k + 1) = br_ t C (so_ t C nc) (t 12 k) k + so_ t C nc (t 11 k) := by
      show br_ t C (so_ t C nc) (t 12 k) k + b1_ t C (so_ t C nc) (t 12 k) k = _
      unfold b1_
      rw [if_pos (by rw [e, gp_self]; rfl)]
    unfold f1_ at h1
    omega
  · rw [if_neg e]
    have := hg (t 11 k) (h.1 k)
    omega
theorem so_pos {t : sg} {C : rl_} {nc : Nat} (h : ok_ t C nc) {m : Nat} (hm : m < 4) : 1 ≤ so_ t C nc m := by
  rw [so_1 h m hm]
  unfold f1_
  omega
/-! rows of bits for the relation -/
def mk_ (C : rl_) (a : Nat) : Nat := (C a 0).toNat + 2 * (C a 1).toNat + 4 * (C a 2).toNat + 8 * (C a 3).toNat
theorem mk_lt (C : rl_) (a : Nat) : mk_ C a < 16 := by
  have h0 := bn_le (C a 0)
  have h1 := bn_le (C a 1)
  have h2 := bn_le (C a 2)
  have h3 := bn_le (C a 3)
  unfold mk_
  omega
theorem mk_tb (C : rl_) (a : Nat) {b : Nat} (hb : b < 4) : (mk_ C a).testBit b = C a b := by
  have h : b = 0 ∨ b = 1 ∨ b = 2 ∨ b = 3 := by omega
  unfold mk_
  rcases h with rfl | rfl | rfl | rfl <;> (generalize C a 0 = x0; generalize C a 1 = x1; generalize C a 2 = x2; generalize C a 3 = x3; cases x0 <;> cases x1 <;> cases x2 <;> cases x3 <;> decide)
theorem mk_of {C : rl_} {a g : Nat} (hg : g < 16) (h : ∀ b, b < 4 → g.testBit b = C a b) : g = mk_ C a := by
  apply Nat.eq_of_testBit_eq
  intro i
  by_cases hi : i < 4
  · rw [h i hi, mk_tb C a hi]
  · have e : 2 ^ 4 ≤ 2 ^ i := Nat.pow_le_pow_right (by decide) (by omega)
    rw [Nat.testBit_lt_two_pow (Nat.lt_of_lt_of_le hg e), Nat.testBit_lt_two_pow (Nat.lt_of_lt_of_le (mk_lt C a) e)]
/-- the class's relation: one call or more, as its rows of bits have it -/
def cr_ (t : sg) (nc : Nat) : rl_ := fun a b => (mk_ (wc_ (c0_ t nc)) a).testBit b
theorem cr_is {t : sg} {nc a b : Nat} (hb : b < 4) : cr_ t nc a b = wc_ (c0_ t nc) a b := mk_tb _ a hb
theorem cr_lt {t : sg} {nc a b : Nat} (h : cr_ t nc a b = true) : b < 4 := by
  refine Classical.byContradiction fun hb => ?_
  have e : 2 ^ 4 ≤ 2 ^ b := Nat.pow_le_pow_right (by decide) (by omega)
  unfold cr_ at h
  rw [Nat.testBit_lt_two_pow (Nat.lt_of_lt_of_le (mk_lt _ a) e)] at h
  cases h
theorem ok_cr {t : sg} (h1 : ∀ k, t 11 k < 4) (h2 : ∀ k, t 12 k < 4) (nc : Nat) : ok_ t (cr_ t nc) nc := by
  refine ⟨h1, h2, fun k hk => ?_, fun k hk a b ha hb => ?_⟩
  · rw [cr_is (h2 k)]; exact wc_up (c0_in hk)
  · have hb4 := cr_lt hb
    rw [cr_is hk] at ha
    rw [cr_is hb4] at hb ⊢
    exact wc_th _ k hk a b ha hb
def ww_ (C : rl_) : Nat → rl_
  | 0 => C
  | m + 1 => w1_ m (ww_ C m)
theorem w1_row (m : Nat) (C : rl_) (b : Nat) : w1_ m C m b = C m b := by
  unfold w1_
  cases C m b <;> cases C m m <;> rfl
theorem or_16 {a b : Nat} (ha : a < 16) (hb : b < 16) : a ||| b < 16 := Nat.or_lt_two_pow (n := 4) ha hb
/-- one call more -/
theorem c0_row {t : sg} {i a b : Nat} {g : Nat → Nat} (h2 : t 12 i < 4) (hb : b < 4) (hg : (g a).testBit b = c0_ t i a b) : (va_up g (t 11 i) (g (t 11 i) ||| 1 * 2 ^ t 12 i) a).testBit b = c0_ t (i + 1) a b := by
  show _ = (c0_ t i a b || (t 11 i == a && t 12 i == b))
  by_cases e : a = t 11 i
  · subst e
    rw [up_eq, Nat.testBit_or, hg, Nat.one_mul, Nat.testBit_two_pow, beq_self_eq_true, Bool.true_and]
    by_cases h : t 12 i = b
    · rw [decide_eq_true h, beq_iff_eq.mpr h]
    · have h3 : (t 12 i == b) = false := by rw [← Bool.not_eq_true, beq_iff_eq]; exact h
      rw [decide_eq_false h, h3]
  · rw [up_ne e, hg]
    have e2 : (t 11 i == a) = false := by rw [← Bool.not_eq_true, beq_iff_eq]; exact fun z => e z.symm
    rw [e2, Bool.false_and, Bool.or_false]
/-! diagrams: the nodes of a row of bits -/
def sa_ (f : Nat → Nat) (a b : Nat) : Nat → Bool
  | 0 => true
  | k + 1 => sa_ f a b k && (f (a + k) == f (b + k))
theorem sa_is {f : Nat → Nat} {a b : Nat} : ∀ {n : Nat}, sa_ f a b n = true ↔ ∀ k, k < n → f (a + k) = f (b + k)
  | 0 => ⟨fun _ k hk => by omega, fun _ => rfl⟩
  | n + 1 => by
    show (sa_ f a b n && (f (a + n) == f (b + n))) = true ↔ _
    rw [Bool.and_eq_true, sa_is (n := n), beq_iff_eq]
    constructor
    · intro h k hk
      by_cases e : k = n
      · subst e; exact h.2
      · exact h.1 k (by omega)
    · intro h
      exact ⟨fun k hk => h k (by omega), h n (by omega)⟩
def nb_ (f : Nat → Nat) (s i : Nat) : Nat → Bool
  | 0 => true
  | j + 1 => nb_ f s i j && !sa_ f (2 * s * i) (2 * s * j) (2 * s)
def ne_ (f : Nat → Nat) (s i : Nat) : Bool := !sa_ f (2 * s * i) (2 * s * i + s) s && nb_ f s i i
def ct_ (f : Nat → Nat) (s n : Nat) : Nat := sm_ (fun i => (ne_ f s i).toNat) n
theorem nb_is {f : Nat → Nat} {s i : Nat} : ∀ {n : Nat}, nb_ f s i n = true ↔ ∀ j, j < n → ¬ ∀ k, k < 2 * s → f (2 * s * i + k) = f (2 * s * j + k)
  | 0 => ⟨fun _ k hk => by omega, fun _ => rfl⟩
  | n + 1 => by
    show (nb_ f s i n && !sa_ f (2 * s * i) (2 * s * n) (2 * s)) = true ↔ _
    rw [Bool.and_eq_true, nb_is (n := n), Bool.not_eq_true', ← Bool.not_eq_true, sa_is]
    constructor
    · intro h j hj
      by_cases e : j = n
      · subst e; exact h.2
      · exact h.1 j (by omega)
    · intro h
      exact ⟨fun j hj => h j (by omega), h n (by omega)⟩
/-- names of the blocks of s places -/
def nm_ (f : Nat → Nat) (s n b : Nat) (F : Nat → Nat) : Prop := (∀ i j, i < n → j < n → (F i = F j ↔ ∀ k, k < s → f (s * i + k) = f (s * j + k))) ∧ ∀ i, i < n → F i < b
def nq_ (F : Nat → Nat) (i : Nat) : Nat → Bool
  | 0 => true
  | j + 1 => nq_ F i j && !(F (2 * i) == F (2 * j) && F (2 * i + 1) == F (2 * j + 1))
def np_ (F : Nat → Nat) (i : Nat) : Bool := !(F (2 * i) == F (2 * i + 1)) && nq_ F i i
theorem nq_is {F : Nat → Nat} {i : Nat} : ∀ {n : Nat}, nq_ F i n = true ↔ ∀ j, j < n → ¬ (F (2 * i) = F (2 * j) ∧ F (2 * i + 1) = F (2 * j + 1))
  | 0 => ⟨fun _ k hk => by omega, fun _ => rfl⟩
  | n + 1 => by
    show (nq_ F i n && !(F (2 * i) == F (2 * n) && F (2 * i + 1) == F (2 * n + 1))) = true ↔ _
    rw [Bool.and_eq_true, nq_is (n := n), Bool.not_eq_true', ← Bool.not_eq_true, Bool.and_eq_true, beq_iff_eq, beq_iff_eq]
    constructor
    · intro h j hj
      by_cases e : j = n
      · subst e; exact h.2
      · exact h.1 j (by omega)
    · intro h
      exact ⟨fun j hj => h j (by omega), h n (by omega)⟩
/-- the state of joining, i pairs done: the table has m nodes -/
def jn_ (F : Nat → Nat) (b i : Nat) (Z O : Nat → Nat) (m : Nat) (G : Nat → Nat) : Prop :=
  (∀ k, i ≤ k → G k = F k) ∧ (∀ x y, x < m → y < m → Z x = Z y → O x = O y → x = y) ∧ (∀ x, x < m → ∃ j, j < i ∧ F (2 * j) = Z x ∧ F (2 * j + 1) = O x) ∧
  (∀ j, j < i → F (2 * j) ≠ F (2 * j + 1) → ∃ x, x < m ∧ Z x = F (2 * j) ∧ O x = F (2 * j + 1) ∧ G j = b + x) ∧ (∀ j, j < i → F (2 * j) = F (2 * j + 1) → G j = F (2 * j)) ∧ m = sm_ (fun i => (np_ F i).toNat) i
theorem jn_m {F : Nat → Nat} {b i m : Nat} {Z O G : Nat → Nat} (h : jn_ F b i Z O m G) : m ≤ i := by
  have h1 := sm_cap (f := fun i => (np_ F i).toNat) (b := 1) i (fun k _ => bn_le _)
  rw [h.2.2.2.2.2]
  omega
theorem jn_0 {F Z O : Nat → Nat} {b : Nat} : jn_ F b 0 Z O 0 F := ⟨fun _ _ => rfl, fun x y hx => by omega, fun x hx => by omega, fun j hj => by omega, fun j hj => by omega, rfl⟩
theorem np_no {F : Nat → Nat} {i : Nat} (h : F (2 * i) = F (2 * i + 1) ∨ ∃ j, j < i ∧ F (2 * i) = F (2 * j) ∧ F (2 * i + 1) = F (2 * j + 1)) : np_ F i = false := by
  cases e : np_ F i with
  | false => rfl
  | true =>
    unfold np_ at e
    rw [Bool.and_eq_true, nq_is, Bool.not_eq_true', ← Bool.not_eq_true, beq_iff_eq] at e
    rcases h with h | ⟨j, hj, h1, h2⟩
    · exact absurd h e.1
    · exact absurd ⟨h1, h2⟩ (e.2 j hj)
theorem np_yes {F : Nat → Nat} {i : Nat} (h1 : F (2 * i) ≠ F (2 * i + 1)) (h2 : ∀ j, j < i → ¬ (F (2 * i) = F (2 * j) ∧ F (2 * i + 1) = F (2 * j + 1))) : np_ F i = true := by
  unfold np_
  rw [Bool.and_eq_true, nq_is, Bool.not_eq_true', ← Bool.not_eq_true, beq_iff_eq]
  exact ⟨h1, h2⟩
theorem jn_a {F : Nat → Nat} {b i m : Nat} {Z O G : Nat → Nat} (h : jn_ F b i Z O m G) (e : F (2 * i) = F (2 * i + 1)) : jn_ F b (i + 1) Z O m (va_up G i (F (2 * i))) := by
  obtain ⟨h1, h2, h3, h4, h5, h6⟩ := h
  refine ⟨fun k hk => ?_, h2, fun x hx => ?_, fun j hj hne => ?_, fun j hj he => ?_, ?_⟩
  · rw [up_ne (by omega)]; exact h1 k (by omega)
  · obtain ⟨j, hj, q⟩ := h3 x hx; exact ⟨j, by omega, q⟩
  · have hji : j ≠ i := fun z => hne (by rw [z]; exact e)
    rw [up_ne hji]; exact h4 j (by omega) hne
  · by_cases z : j = i
    · subst z; rw [up_eq]
    · rw [up_ne z]; exact h5 j (by omega) he
  · show m = sm_ (fun i => (np_ F i).toNat) i + (np_ F i).toNat
    rw [np_no (Or.inl e)]; exact h6
theorem jn_b {F : Nat → Nat} {b i m r : Nat} {Z O G : Nat → Nat} (h : jn_ F b i Z O m G) (e : F (2 * i) ≠ F (2 * i + 1)) (hr : r < m) (hZ : Z r = F (2 * i)) (hO : O r = F (2 * i + 1)) : jn_ F b (i + 1) Z O m (va_up G i (b + r)) := by
  obtain ⟨h1, h2, h3, h4, h5, h6⟩ := h
  refine ⟨fun k hk => ?_, h2, fun x hx => ?_, fun j hj hne => ?_, fun j hj he => ?_, ?_⟩
  · rw [up_ne (by omega)]; exact h1 k (by omega)
  · obtain ⟨j, hj, q⟩ := h3 x hx; exact ⟨j, by omega, q⟩
  · by_cases z : j = i
    · subst z; exact ⟨r, hr, hZ, hO, up_eq _ _ _⟩
    · rw [up_ne z]; exact h4 j (by omega) hne
  · have hji : j ≠ i := fun z => e (by rw [← z]; exact he)
    rw [up_ne hji]; exact h5 j (by omega) he
  · show m = sm_ (fun i => (np_ F i).toNat) i + (np_ F i).toNat
    obtain ⟨j, hj, q1, q2⟩ := h3 r hr
    rw [np_no (Or.inr ⟨j, hj, by rw [q1, hZ], by rw [q2, hO]⟩)]; exact h6
theorem jn_c {F : Nat → Nat} {b i m : Nat} {Z O G : Nat → Nat} (h : jn_ F b i Z O m G) (e : F (2 * i) ≠ F (2 * i + 1)) (hno : ∀ x, x < m → ¬ (Z x = F (2 * i) ∧ O x = F (2 * i + 1))) : jn_ F b (i + 1) (va_up Z m (F (2 * i))) (va_up O m (F (2 * i + 1))) (m + 1) (va_up G i (b + m)) := by
  obtain ⟨h1, h2, h3, h4, h5, h6⟩ := h
  refine ⟨fun k hk => ?_, fun x y hx hy ex ey => ?_, fun x hx => ?_, fun j hj hne => ?_, fun j hj he => ?_, ?_⟩
  · rw [up_ne (by omega)]; exact h1 k (by omega)
  · by_cases zx : x = m
    · by_cases zy : y = m
      · omega
      · subst zx
        rw [up_eq, up_ne zy] at ex ey
        exact absurd ⟨ex.symm, ey.symm⟩ (hno y (by omega))
    · by_cases zy : y = m
      · subst zy
        rw [up_eq, up_ne zx] at ex ey
        exact absurd ⟨ex, ey⟩ (hno x (by omega))
      · rw [up_ne zx, up_ne zy] at ex ey
        exact h2 x y (by omega) (by omega) ex ey
  · by_cases zx : x = m
    · subst zx; exact ⟨i, by omega, by rw [up_eq], by rw [up_eq]⟩
    · obtain ⟨j, hj, q⟩ := h3 x (by omega)
      rw [up_ne zx, up_ne zx]
      exact ⟨j, by omega, q⟩
  · by_cases z : j = i
    · subst z; exact ⟨m, by omega, up_eq _ _ _, up_eq _ _ _, up_eq _ _ _⟩
    · obtain ⟨x, hx, q1, q2, q3⟩ := h4 j (by omega) hne
      exact ⟨x, by omega, by rw [up_ne (by omega)]; exact q1, by rw [up_ne (by omega)]; exact q2, by rw [up_ne z]; exact q3⟩
  · have hji : j ≠ i := fun z => e (by rw [← z]; exact he)
    rw [up_ne hji]; exact h5 j (by omega) he
  · show m + 1 = sm_ (fun i => (np_ F i).toNat) i + (np_ F i).toNat
    rw [np_yes e (fun j hj q => ?_), ← h6]
    · rfl
    · have hne : F (2 * j) ≠ F (2 * j + 1) := by rw [← q.1, ← q.2]; exact e
      obtain ⟨x, hx, q1, q2, -⟩ := h4 j hj hne
      exact hno x hx ⟨by rw [q1, q.1], by rw [q2, q.2]⟩
/-- a block is its two halves -/
theorem bl_2 {f : Nat → Nat} {s i j : Nat} : (∀ k, k < 2 * s → f (2 * s * i + k) = f (2 * s * j + k)) ↔ (∀ k, k < s → f (s * (2 * i) + k) = f (s * (2 * j) + k)) ∧ ∀ k, k < s → f (s * (2 * i + 1) + k) = f (s * (2 * j + 1) + k) := by
  have e1 : ∀ a, s * (2 * a) = 2 * s * a := fun a => by rw [← Nat.mul_assoc, Nat.mul_comm s 2]
  have e2 : ∀ a, s * (2 * a + 1) = 2 * s * a + s := fun a => by rw [Nat.mul_add, e1, Nat.mul_one]
  constructor
  · intro h
    refine ⟨fun k hk => ?_, fun k hk => ?_⟩
    · rw [e1, e1]; exact h k (by omega)
    · rw [e2, e2, Nat.add_assoc, Nat.add_assoc]; exact h (s + k) (by omega)
  · intro h k hk
    by_cases q : k < s
    · have := h.1 k q; rw [e1, e1] at this; exact this
    · have := h.2 (k - s) (by omega)
      rw [e2, e2, Nat.add_assoc, Nat.add_assoc, show s + (k - s) = k by omega] at this
      exact this
theorem nm_pair {f : Nat → Nat} {s n b : Nat} {F : Nat → Nat} (h : nm_ f s (2 * n) b F) {i j : Nat} (hi : i < n) (hj : j < n) : (F (2 * i) = F (2 * j) ∧ F (2 * i + 1) = F (2 * j + 1)) ↔ ∀ k, k < 2 * s → f (2 * s * i + k) = f (2 * s * j + k) := by
  rw [bl_2, h.1 (2 * i) (2 * j) (by omega) (by omega), h.1 (2 * i + 1) (2 * j + 1) (by omega) (by omega)]
theorem np_ne {f : Nat → Nat} {s n b : Nat} {F : Nat → Nat} (h : nm_ f s (2 * n) b F) {i : Nat} (hi : i < n) : np_ F i = ne_ f s i := by
  have e1 : s * (2 * i) = 2 * s * i := by rw [← Nat.mul_assoc, Nat.mul_comm s 2]
  have e2 : s * (2 * i + 1) = 2 * s * i + s := by rw [Nat.mul_add, e1, Nat.mul_one]
  have h1 : (F (2 * i) == F (2 * i + 1)) = sa_ f (2 * s * i) (2 * s * i + s) s := by
    rw [Bool.eq_iff_iff, beq_iff_eq, sa_is, h.1 (2 * i) (2 * i + 1) (by omega) (by omega), e1, e2]
  have h2 : nq_ F i i = nb_ f s i i := by
    rw [Bool.eq_iff_iff, nq_is, nb_is]
    constructor
    · intro q j hj z; exact q j hj ((nm_pair h hi (by omega)).mpr z)
    · intro q j hj z; exact q j hj ((nm_pair h hi (by omega)).mp z)
  unfold np_ ne_
  rw [h1, h2]
theorem jn_end {f : Nat → Nat} {s n b m : Nat} {F Z O G : Nat → Nat} (h : nm_ f s (2 * n) b F) (hj : jn_ F b n Z O m G) : nm_ f (2 * s) n (b + m) G ∧ m = ct_ f s n := by
  obtain ⟨h1, h2, h3, h4, h5, h6⟩ := hj
  refine ⟨⟨fun i j hi hj => ?_, fun i hi => ?_⟩, ?_⟩
  · rw [← nm_pair h hi hj]
    by_cases ei : F (2 * i) = F (2 * i + 1)
    · rw [h5 i hi ei]
      by_cases ej : F (2 * j) = F (2 * j + 1)
      · rw [h5 j hj ej, ← ei, ← ej]
        exact ⟨fun q => ⟨q, q⟩, fun q => q.1⟩
      · obtain ⟨y, hy, q1, q2, q3⟩ := h4 j hj ej
        have hb := h.2 (2 * i) (by omega)
        constructor
        · intro q; rw [q3] at q; omega
        · intro q; exact absurd (by rw [← q.1, ← q.2]; exact ei) ej
    · obtain ⟨x, hx, p1, p2, p3⟩ := h4 i hi ei
      by_cases ej : F (2 * j) = F (2 * j + 1)
      · rw [h5 j hj ej]
        have hb := h.2 (2 * j) (by omega)
        constructor
        · intro q; rw [p3] at q; omega
        · intro q; exact absurd (by rw [q.1, q.2]; exact ej) ei
      · obtain ⟨y, hy, q1, q2, q3⟩ := h4 j hj ej
        rw [p3, q3, ← p1, ← p2, ← q1, ← q2]
        constructor
        · intro q
          have : x = y := by omega
          subst this
          exact ⟨rfl, rfl⟩
        · intro q
          rw [h2 x y hx hy q.1 q.2]
  · by_cases ei : F (2 * i) = F (2 * i + 1)
    · rw [h5 i hi ei]
      have hb := h.2 (2 * i) (by omega)
      omega
    · obtain ⟨x, hx, p1, p2, p3⟩ := h4 i hi ei
      rw [p3]
      omega
  · rw [h6]
    exact sm_eq n (fun k hk => by rw [np_ne h hk])
/-- all nodes: levels from the smallest blocks up; q bits in all -/
def lv2_ (f : Nat → Nat) (q : Nat) : Nat → Nat := sm_ (fun u => ct_ f (2 ^ u) (2 ^ (q - 1 - u)))
theorem ct_le (f : Nat → Nat) (s n : Nat) : ct_ f s n ≤ n := by
  have h1 := sm_cap (f := fun i => (ne_ f s i).toNat) (b := 1) n (fun k _ => bn_le _)
  unfold ct_
  omega
/-- the diagram's scratch cells -/
def jt_ (σ : sg) (Z O : Nat → Nat) (m : Nat) (G : Nat → Nat) : sg := ua (ua (ua (ua σ 25 G) 26 Z) 27 O) 4 (va_up (σ 4) 5 m)
theorem jt_jt (σ : sg) (Z O : Nat → Nat) (m : Nat) (G Z' O' : Nat → Nat) (m' : Nat) (G' : Nat → Nat) : jt_ (jt_ σ Z O m G) Z' O' m' G' = jt_ σ Z' O' m' G' := by
  funext b
  unfold jt_
  by_cases h4 : b = 4
  · subst h4
    rw [ua_eq, ua_eq]
    exact bx_uu _ _ _ _
  · rw [ua_ne h4, ua_ne h4]
    by_cases h27 : b = 27
    · subst h27; rw [ua_eq, ua_eq]
    · rw [ua_ne h27, ua_ne h27]
      by_cases h26 : b = 26
      · subst h26; rw [ua_eq, ua_eq]
      · rw [ua_ne h26, ua_ne h26]
        by_cases h25 : b = 25
        · subst h25; rw [ua_eq, ua_eq]
        · rw [ua_ne h25, ua_ne h25, ua_ne h4, ua_ne h27, ua_ne h26, ua_ne h25]
theorem jt_G (σ : sg) (Z O : Nat → Nat) (m : Nat) (G : Nat → Nat) (i x : Nat) : us (jt_ σ Z O m G) 25 i x = jt_ σ Z O m (va_up G i x) := by
  funext b
  unfold us
  by_cases h25 : b = 25
  · subst h25; rw [ua_eq]; rfl
  · rw [ua_ne h25]
    unfold jt_
    by_cases h4 : b = 4
    · subst h4; rw [ua_eq, ua_eq]
    · rw [ua_ne h4, ua_ne h4]
      by_cases h27 : b = 27
      · subst h27; rw [ua_eq, ua_eq]
      · rw [ua_ne h27, ua_ne h27]
        by_cases h26 : b = 26
        · subst h26; rw [ua_eq, ua_eq]
        · rw [ua_ne h26, ua_ne h26, ua_ne h25, ua_ne h25]
theorem jt_N (σ : sg) (Z O : Nat → Nat) (m : Nat) (G : Nat → Nat) (z o : Nat) : us (us (us (jt_ σ Z O m G) 26 m z) 27 m o) 4 5 (m + 1) = jt_ σ (va_up Z m z) (va_up O m o) (m + 1) G := by
  funext b
  unfold us
  by_cases h4 : b = 4
  · subst h4
    rw [ua_eq]
    show va_up (va_up (σ 4) 5 m) 5 (m + 1) = va_up (σ 4) 5 (m + 1)
    exact bx_uu _ _ _ _
  · rw [ua_ne h4]
    by_cases h27 : b = 27
    · subst h27; rw [ua_eq]; rfl
    · rw [ua_ne h27]
      by_cases h26 : b = 26
      · subst h26; rw [ua_eq]; rfl
      · rw [ua_ne h26]
        unfold jt_
        rw [ua_ne h4, ua_ne h4, ua_ne h27, ua_ne h27, ua_ne h26, ua_ne h26]
theorem jt_0 (σ : sg) : us σ 4 5 0 = jt_ σ (σ 26) (σ 27) 0 (σ 25) := by
  funext b
  unfold us jt_
  by_cases h4 : b = 4
  · subst h4; rw [ua_eq, ua_eq]
  · rw [ua_ne h4, ua_ne h4]
    by_cases h27 : b = 27
    · subst h27; rw [ua_eq]
    · rw [ua_ne h27]
      by_cases h26 : b = 26
      · subst h26; rw [ua_eq]
      · rw [ua_ne h26]
        by_cases h25 : b = 25
        · subst h25; rw [ua_eq]
        · rw [ua_ne h25]
theorem jt_id (σ : sg) : σ = jt_ σ (σ 26) (σ 27) (σ 4 5) (σ 25) := by
  rw [← jt_jt σ (σ 26) (σ 27) (σ 4 5) (σ 25)]
  funext b
  unfold jt_
  by_cases h4 : b = 4
  · subst h4; rw [ua_eq, ua_eq]; show σ 4 = va_up (va_up (σ 4) 5 (σ 4 5)) 5 (σ 4 5); rw [up_id, up_id]
  · rw [ua_ne h4]
    by_cases h27 : b = 27
    · subst h27; rw [ua_eq]
    · rw [ua_ne h27]
      by_cases h26 : b = 26
      · subst h26; rw [ua_eq]
      · rw [ua_ne h26]
        by_cases h25 : b = 25
        · subst h25; rw [ua_eq]
        · rw [ua_ne h25, ua_ne h4, ua_ne h27, ua_ne h26, ua_ne h25]
theorem p2_half {q t : Nat} (h : t < q) : 2 ^ (q - t) / 2 = 2 ^ (q - 1 - t) := by
  have e : q - t = (q - 1 - t) + 1 := by omega
  rw [e, Nat.pow_succ, Nat.mul_div_cancel _ (by decide)]
theorem p2_dbl {q t : Nat} (h : t < q) : 2 * 2 ^ (q - 1 - t) = 2 ^ (q - t) := by
  have e : q - t = (q - 1 - t) + 1 := by omega
  rw [e, Nat.pow_succ, Nat.mul_comm]
theorem lv2_le (f : Nat → Nat) (q : Nat) : ∀ t, t ≤ q → lv2_ f q t + 2 ^ (q - t) ≤ 2 ^ q
  | 0, _ => by show 0 + 2 ^ q ≤ 2 ^ q; omega
  | t + 1, h => by
    have ih := lv2_le f q t (by omega)
    have h1 := ct_le f (2 ^ t) (2 ^ (q - 1 - t))
    have h2 := p2_dbl (q := q) (t := t) (by omega)
    have h3 : q - (t + 1) = q - 1 - t := by omega
    show lv2_ f q t + ct_ f (2 ^ t) (2 ^ (q - 1 - t)) + 2 ^ (q - (t + 1)) ≤ 2 ^ q
    rw [h3]
    omega
/-! the class's relations in their cells -/
def rg_ (σ : sg) : rs_ := (σ 21, σ 22, σ 3 3)
def sr_ (σ : sg) (r : rs_) : sg := ua (ua (ua σ 21 r.1) 22 r.2.1) 3 (va_up (σ 3) 3 r.2.2)
theorem sr_sr (σ : sg) (r r' : rs_) : sr_ (sr_ σ r) r' = sr_ σ r' := by
  funext b
  unfold sr_
  by_cases h3 : b = 3
  · subst h3
    rw [ua_eq, ua_eq]
    show va_up (va_up (σ 3) 3 r.2.2) 3 r'.2.2 = va_up (σ 3) 3 r'.2.2
    exact bx_uu _ _ _ _
  · rw [ua_ne h3, ua_ne h3]
    by_cases h22 : b = 22
    · subst h22; rw [ua_eq, ua_eq]
    · rw [ua_ne h22, ua_ne h22]
      by_cases h21 : b = 21
      · subst h21; rw [ua_eq, ua_eq]
      · rw [ua_ne h21, ua_ne h21, ua_ne h3, ua_ne h22, ua_ne h21]
theorem sr_rg (σ : sg) : sr_ σ (rg_ σ) = σ := by
  funext b
  unfold sr_ rg_
  by_cases h3 : b = 3
  · subst h3; rw [ua_eq]; exact up_id _ _
  · rw [ua_ne h3]
    by_cases h22 : b = 22
    · subst h22; rw [ua_eq]
    · rw [ua_ne h22]
      by_cases h21 : b = 21
      · subst h21; rw [ua_eq]
      · rw [ua_ne h21]
theorem rg_sr (σ : sg) (r : rs_) : rg_ (sr_ σ r) = r := rfl
/-- addTo, on points -/
theorem at_21 (σ : sg) (i y : Nat) : (if σ 21 i ||| y = σ 21 i then σ else us (us σ 21 i (σ 21 i ||| y)) 3 3 1) = sr_ σ (va_up (σ 21) i (σ 21 i ||| y), σ 22, if σ 21 i ||| y = σ 21 i then σ 3 3 else 1) := by
  by_cases e : σ 21 i ||| y = σ 21 i
  · rw [if_pos e, if_pos e, e, up_id]; exact (sr_rg σ).symm
  · rw [if_neg e, if_neg e]
    funext b
    unfold sr_ us
    by_cases h3 : b = 3
    · subst h3; rw [ua_eq, ua_eq]; rfl
    · rw [ua_ne h3, ua_ne h3]
      by_cases h22 : b = 22
      · subst h22; rw [ua_eq]; rfl
      · rw [ua_ne h22]
theorem at_22 (σ : sg) (i y : Nat) : (if σ 22 i ||| y = σ 22 i then σ else us (us σ 22 i (σ 22 i ||| y)) 3 3 1) = sr_ σ (σ 21, va_up (σ 22) i (σ 22 i ||| y), if σ 22 i ||| y = σ 22 i then σ 3 3 else 1) := by
  by_cases e : σ 22 i ||| y = σ 22 i
  · rw [if_pos e, if_pos e, e, up_id]; exact (sr_rg σ).symm
  · rw [if_neg e, if_neg e]
    funext b
    unfold sr_ us
    by_cases h3 : b = 3
    · subst h3; rw [ua_eq, ua_eq]; rfl
    · rw [ua_ne h3, ua_ne h3]
      by_cases h22 : b = 22
      · subst h22; rw [ua_eq, ua_eq]
      · rw [ua_ne h22, ua_ne h22]
        by_cases h21 : b = 21
        · subst h21; rw [ua_eq]
        · rw [ua_ne h21]
theorem hs_B {set f x : Nat} (hx : x < 256) : ∀ n s, B_ s → B_ (hs_ set f x n s)
  | 0, s, hs => hs
  | n + 1, s, hs => by
    have ih := hs_B (set := set) (f := f) hx n s hs
    show B_ (if set.testBit n = true then h1_ f x n (hs_ set f x n s) else hs_ set f x n s)
    by_cases e : set.testBit n = true
    · rw [if_pos e]; exact ⟨ih.1, up_256 ih.2 (or_256 (ih.2 _) hx)⟩
    · rw [if_neg e]; exact ih
theorem ad_B {w : Nat → Nat} {c v x : Nat} {s : rs_} (hw : ∀ k, w k < 256) (hs : B_ s) : B_ (ad_ w c v x s) := ⟨up_256 hs.1 (or_256 (hs.1 _) (and_256 (hw v))), hs.2⟩
theorem ha_B {hl : Nat → Nat} {set f : Nat} (h : ∀ k, hl k < 256) : ∀ n, ha_ hl set f n < 256
  | 0 => by show 0 < 256; decide
  | n + 1 => by
    show ha_ hl set f n ||| (if set.testBit n = true then hl (n * 2 + f) else 0) < 256
    refine or_256 (ha_B h n) ?_
    by_cases e : set.testBit n = true
    · rw [if_pos e]; exact h _
    · rw [if_neg e]; decide
/-- whom a variable accepts -/
def fw_ (t : sg) (v : Nat) : Nat → Nat
  | 0 => 0
  | h + 1 => fw_ t v h ||| (if (t 6 v).testBit (t 5 h) = true then 1 * 2 ^ h else 0)
theorem fw_lt (t : sg) (v : Nat) : ∀ n, n ≤ 8 → fw_ t v n < 256
  | 0, _ => by show 0 < 256; decide
  | n + 1, hn => by
    refine or_256 (fw_lt t v n (by omega)) ?_
    by_cases e : (t 6 v).testBit (t 5 n) = true
    · rw [if_pos e, Nat.one_mul]
      exact Nat.pow_lt_pow_right (by decide) (by omega : n < 8)
    · rw [if_neg e]; decide
def ft_ (t : sg) (v : Nat) : Nat := fw_ t v 8
theorem ft_lt (t : sg) (v : Nat) : ft_ t v < 256 := fw_lt t v 8 (by omega)
theorem it_B {f : Nat → rs_ → rs_} (h : ∀ k s, B_ s → B_ (f k s)) : ∀ n s, B_ s → B_ (it_ f n s)
  | 0, _, hs => hs
  | n + 1, s, hs => h n _ (it_B h n s hs)
theorem sx_B {t : sg} {w : Nat → Nat} {k c : Nat} {s : rs_} (hw : ∀ k, w k < 256) (hs : B_ s) : B_ (sx_ t w k c s) := by
  unfold sx_
  by_cases e0 : t 7 k = 0
  · rw [if_pos e0]; exact ad_B hw hs
  · rw [if_neg e0]
    by_cases e1 : t 7 k = 1
    · rw [if_pos e1]; exact ad_B hw hs
    · rw [if_neg e1]
      by_cases e2 : t 7 k = 2
      · rw [if_pos e2]; exact hs_B (hs.1 _) 8 s hs
      · rw [if_neg e2]; exact ad_B hw hs
theorem ss_B {t : sg} {w mn : Nat → Nat} {n : Nat} {s : rs_} (hw : ∀ k, w k < 256) (hs : B_ s) : B_ (ss_ t w mn n s) := it_B (fun _ s hs => it_B (fun _ s hs => sx_B hw hs) _ s hs) n s hs
theorem pa_B {t : sg} {w : Nat → Nat} {c d q : Nat} {s : rs_} (hw : ∀ k, w k < 256) (hs : B_ s) : B_ (pa_ t w c d q s) := by
  unfold pa_
  by_cases e : t 16 q = 0
  · rw [if_pos e]; exact ad_B hw hs
  · rw [if_neg e]; exact ad_B hw hs
theorem pp_B {t : sg} {w : Nat → Nat} {k c d n : Nat} {s : rs_} (hw : ∀ k, w k < 256) (hs : B_ s) : B_ (pp_ t w k c d n s) := it_B (fun _ s hs => pa_B hw hs) n s hs
theorem cs_B {t : sg} {w mn bs : Nat → Nat} {n : Nat} {s : rs_} (hw : ∀ k, w k < 256) (hs : B_ s) : B_ (cs_ t w mn bs n s) := it_B (fun _ s hs => it_B (fun _ s hs => pp_B hw hs) _ s hs) n s hs
