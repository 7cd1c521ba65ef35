/-! the rows of a diagram: where each number's bits lie -/
def shT : List Nat := [7, 3, 0, 7, 0, 4, 3, 6, 0, 0, 6, 3, 4, 0, 7, 0, 3, 7, 4, 3, 0, 4, 0, 1, 3, 6, 0, 0, 6, 3, 1, 0, 4, 0, 3, 4]
def sh_ (w o k : Nat) : Nat := shT.getD ((w * 6 + o) * 3 + k) 0
def rw_ (w : Nat) : Nat := if w = 0 then 1024 else 128
def nb2_ (w : Nat) : Nat := if w = 0 then 16 else 2
def ix_ (w o a b c : Nat) : Nat := a * 2 ^ sh_ w o 0 + b * 2 ^ sh_ w o 1 + c * 2 ^ sh_ w o 2
def k0_ (w o k : Nat) : Nat := k / 2 ^ sh_ w o 0 % 8
def k1_ (w o k : Nat) : Nat := k / 2 ^ sh_ w o 1 % nb2_ w
def k2_ (w o k : Nat) : Nat := k / 2 ^ sh_ w o 2 % 8
theorem ix_12 {P : Nat → Nat → Prop} (h00 : P 0 0) (h01 : P 0 1) (h02 : P 0 2) (h03 : P 0 3) (h04 : P 0 4) (h05 : P 0 5) (h10 : P 1 0) (h11 : P 1 1) (h12 : P 1 2) (h13 : P 1 3) (h14 : P 1 4) (h15 : P 1 5) {w o : Nat} (hw : w < 2) (ho : o < 6) : P w o := by
  have e : w = 0 ∨ w = 1 := by omega
  have e2 : o = 0 ∨ o = 1 ∨ o = 2 ∨ o = 3 ∨ o = 4 ∨ o = 5 := by omega
  rcases e with rfl | rfl <;> rcases e2 with rfl | rfl | rfl | rfl | rfl | rfl <;> assumption
theorem ix_lt {w o : Nat} (hw : w < 2) (ho : o < 6) : ∀ a b c, a < 8 → b < nb2_ w → c < 8 → ix_ w o a b c < rw_ w := by
  refine ix_12 (P := fun w o => ∀ a b c, a < 8 → b < nb2_ w → c < 8 → ix_ w o a b c < rw_ w) ?_ ?_ ?_ ?_ ?_ ?_ ?_ ?_ ?_ ?_ ?_ ?_ hw ho <;> (intro a b c ha hb hc; simp only [ix_, rw_, nb2_, sh_, shT, List.getD_eq_getElem?_getD] at *; simp at *; omega)
theorem ix_iff {w o : Nat} (hw : w < 2) (ho : o < 6) : ∀ k a b c, k < rw_ w → a < 8 → b < nb2_ w → c < 8 → (k = ix_ w o a b c ↔ k0_ w o k = a ∧ k1_ w o k = b ∧ k2_ w o k = c) := by
  refine ix_12 (P := fun w o => ∀ k a b c, k < rw_ w → a < 8 → b < nb2_ w → c < 8 → (k = ix_ w o a b c ↔ k0_ w o k = a ∧ k1_ w o k = b ∧ k2_ w o k = c)) ?_ ?_ ?_ ?_ ?_ ?_ ?_ ?_ ?_ ?_ ?_ ?_ hw ho <;> (intro k a b c hk ha hb hc; simp only [ix_, rw_, nb2_, k0_, k1_, k2_, sh_, shT, List.getD_eq_getElem?_getD] at *; simp at *; omega)
theorem k0_lt (w o k : Nat) : k0_ w o k < 8 := Nat.mod_lt _ (by decide)
theorem k1_lt (w o k : Nat) : k1_ w o k < nb2_ w := Nat.mod_lt _ (by unfold nb2_; by_cases e : w = 0; rw [if_pos e]; decide; rw [if_neg e]; decide)
theorem kk2_lt (w o k : Nat) : k2_ w o k < 8 := Nat.mod_lt _ (by decide)
/-- the row of bits of a relation f -/
def fn_ (w o : Nat) (f : Nat → Nat) (k : Nat) : Nat := ((f (k0_ w o k * nb2_ w + k1_ w o k)).testBit (k2_ w o k)).toNat
theorem fn_2 (w o : Nat) (f : Nat → Nat) (k : Nat) : fn_ w o f k < 2 := by
  have := bn_le ((f (k0_ w o k * nb2_ w + k1_ w o k)).testBit (k2_ w o k))
  unfold fn_
  omega
def dr_ (w o a b x : Nat) : Nat → (Nat → Nat) → Nat → Nat := it_ (fun c g => va_up g (ix_ w o a b c) (x.testBit c).toNat)
theorem dr_at {w o : Nat} (hw : w < 2) (ho : o < 6) {a b x k : Nat} {g : Nat → Nat} (ha : a < 8) (hb : b < nb2_ w) (hk : k < rw_ w) : ∀ n, n ≤ 8 → dr_ w o a b x n g k = if k0_ w o k = a ∧ k1_ w o k = b ∧ k2_ w o k < n then (x.testBit (k2_ w o k)).toNat else g k
  | 0, _ => by rw [if_neg (by omega)]; rfl
  | n + 1, hn => by
    have ih := dr_at hw ho (x := x) (g := g) ha hb hk n (by omega)
    have hi := ix_iff hw ho k a b n hk ha hb (by omega)
    show va_up (dr_ w o a b x n g) (ix_ w o a b n) (x.testBit n).toNat k = _
    by_cases e : k = ix_ w o a b n
    · obtain ⟨q1, q2, q3⟩ := hi.mp e
      rw [if_pos ⟨q1, q2, by omega⟩, q3]
      subst e
      exact up_eq _ _ _
    · rw [up_ne e, ih]
      have hne : ¬ (k0_ w o k = a ∧ k1_ w o k = b ∧ k2_ w o k = n) := fun z => e (hi.mpr z)
      by_cases q : k0_ w o k = a ∧ k1_ w o k = b ∧ k2_ w o k < n
      · rw [if_pos q, if_pos ⟨q.1, q.2.1, by omega⟩]
      · rw [if_neg q, if_neg (by omega)]
theorem dr_out {w o : Nat} (hw : w < 2) (ho : o < 6) {a b x k : Nat} {g : Nat → Nat} (ha : a < 8) (hb : b < nb2_ w) (hk : ¬ k < rw_ w) : ∀ n, n ≤ 8 → dr_ w o a b x n g k = g k
  | 0, _ => rfl
  | n + 1, hn => by
    have hi := ix_lt hw ho a b n ha hb (by omega)
    show va_up (dr_ w o a b x n g) (ix_ w o a b n) (x.testBit n).toNat k = _
    rw [up_ne (by omega)]
    exact dr_out hw ho ha hb hk n (by omega)
theorem sh_7 {w o : Nat} (hw : w < 2) (ho : o < 6) : sh_ w o 0 ≤ 7 ∧ sh_ w o 1 ≤ 7 ∧ sh_ w o 2 ≤ 7 :=
  ix_12 (P := fun w o => sh_ w o 0 ≤ 7 ∧ sh_ w o 1 ≤ 7 ∧ sh_ w o 2 ≤ 7) (by decide) (by decide) (by decide) (by decide) (by decide) (by decide) (by decide) (by decide) (by decide) (by decide) (by decide) (by decide) hw ho
theorem mul_p2 {a s : Nat} (ha : a < 16) (hs : s ≤ 7) : a * 2 ^ s < 2 ^ 12 := by
  have h1 : 2 ^ s ≤ 2 ^ 7 := Nat.pow_le_pow_right (by decide) hs
  have h2 : a * 2 ^ s ≤ 15 * 2 ^ 7 := Nat.mul_le_mul (by omega) h1
  omega
/-- only the first 2 ^ q places count -/
theorem sa_cg {f g : Nat → Nat} {a b : Nat} : ∀ n, (∀ k, k < n → f (a + k) = g (a + k) ∧ f (b + k) = g (b + k)) → sa_ f a b n = sa_ g a b n
  | 0, _ => rfl
  | n + 1, h => by
    show (sa_ f a b n && (f (a + n) == f (b + n))) = (sa_ g a b n && (g (a + n) == g (b + n)))
    rw [sa_cg n (fun k hk => h k (by omega)), (h n (by omega)).1, (h n (by omega)).2]
theorem blk_le {s i n : Nat} (hi : i < n) : 2 * s * i + 2 * s ≤ 2 * s * n := by
  have h : 2 * s * (i + 1) ≤ 2 * s * n := Nat.mul_le_mul_left _ (by omega)
  rw [Nat.mul_succ] at h
  exact h
theorem nb_cg {f g : Nat → Nat} {s n i : Nat} (h : ∀ k, k < 2 * s * n → f k = g k) (hi : i < n) : ∀ j, j ≤ i → nb_ f s i j = nb_ g s i j
  | 0, _ => rfl
  | j + 1, hj => by
    have b1 := blk_le (s := s) hi
    have b2 := blk_le (s := s) (show j < n by omega)
    show (nb_ f s i j && !sa_ f (2 * s * i) (2 * s * j) (2 * s)) = (nb_ g s i j && !sa_ g (2 * s * i) (2 * s * j) (2 * s))
    rw [nb_cg h hi j (by omega), sa_cg (2 * s) (fun k hk => ⟨h _ (by omega), h _ (by omega)⟩)]
theorem ct_cg {f g : Nat → Nat} {s n : Nat} (h : ∀ k, k < 2 * s * n → f k = g k) : ct_ f s n = ct_ g s n := by
  refine sm_eq n (fun i hi => ?_)
  have b1 := blk_le (s := s) hi
  have e : ne_ f s i = ne_ g s i := by
    unfold ne_
    rw [nb_cg h hi i (Nat.le_refl _), sa_cg s (fun k hk => ⟨h _ (by omega), h _ (by omega)⟩)]
  rw [e]
theorem lv2_cg {f g : Nat → Nat} {q : Nat} (h : ∀ k, k < 2 ^ q → f k = g k) : lv2_ f q q = lv2_ g q q := by
  refine sm_eq q (fun u hu => ct_cg (fun k hk => h k ?_))
  have e : 2 * 2 ^ u * 2 ^ (q - 1 - u) = 2 ^ q := by
    rw [Nat.mul_assoc, ← Nat.pow_add, Nat.mul_comm, ← Nat.pow_succ]
    congr 1
    omega
  rw [e] at hk
  exact hk
