/-! the reference's index -/
def sl_ (w : Nat) : Nat := if w = 0 then 4 else 1
def ia_ (w o a b c : Nat) : Nat → Nat
  | 0 => 0
  | p + 1 => if staT.getD (o * 3 + p) 0 = 0 then ia_ w o a b c p * 2 ^ 3 + a else if staT.getD (o * 3 + p) 0 = 1 then ia_ w o a b c p * 2 ^ sl_ w + b else ia_ w o a b c p * 2 ^ 3 + c
theorem sh_or {x s v : Nat} (h : v < 2 ^ s) : x * 2 ^ s ||| v = x * 2 ^ s + v := by
  have h1 := Nat.shiftLeft_add_eq_or_of_lt h x
  rw [Nat.shiftLeft_eq] at h1
  exact h1.symm
theorem ia_ix {w o : Nat} (hw : w < 2) (ho : o < 6) : ∀ a b c, ia_ w o a b c 3 = ix_ w o a b c := by
  refine ix_12 (P := fun w o => ∀ a b c, ia_ w o a b c 3 = ix_ w o a b c) ?_ ?_ ?_ ?_ ?_ ?_ ?_ ?_ ?_ ?_ ?_ ?_ hw ho <;> (intro a b c; simp [ia_, ix_, sl_, sh_, shT, staT]; try omega)
theorem ia_lt {w o a b c : Nat} (hw : w < 2) (ha : a < 8) (hb : b < nb2_ w) (hc : c < 8) : ∀ p, p ≤ 3 → ia_ w o a b c p < 16 ^ p
  | 0, _ => by show 0 < 1; decide
  | p + 1, hp => by
    have ih := ia_lt hw (o := o) ha hb hc p (by omega)
    have hb2 : b < 2 ^ sl_ w ∧ sl_ w ≤ 4 := by
      unfold sl_ nb2_ at *
      by_cases e : w = 0
      · rw [if_pos e] at *; exact ⟨hb, by decide⟩
      · rw [if_neg e] at *; exact ⟨hb, by decide⟩
    have hs : 2 ^ sl_ w ≤ 16 := Nat.le_trans (Nat.pow_le_pow_right (by decide) hb2.2) (by decide)
    have h1 : ia_ w o a b c p * 2 ^ sl_ w ≤ ia_ w o a b c p * 16 := Nat.mul_le_mul_left _ hs
    have e16 : 16 ^ (p + 1) = 16 ^ p * 16 := Nat.pow_succ ..
    show (if staT.getD (o * 3 + p) 0 = 0 then ia_ w o a b c p * 2 ^ 3 + a else if staT.getD (o * 3 + p) 0 = 1 then ia_ w o a b c p * 2 ^ sl_ w + b else ia_ w o a b c p * 2 ^ 3 + c) < 16 ^ (p + 1)
    rw [e16]
    generalize 16 ^ p = Y at ih
    by_cases e0 : staT.getD (o * 3 + p) 0 = 0
    · rw [if_pos e0]; omega
    · rw [if_neg e0]
      by_cases e1 : staT.getD (o * 3 + p) 0 = 1
      · rw [if_pos e1]
        by_cases ew : w = 0
        · have : sl_ w = 4 := if_pos ew
          rw [this] at hb2 ⊢
          omega
        · have : sl_ w = 1 := if_neg ew
          rw [this] at hb2 ⊢
          omega
      · rw [if_neg e1]; omega
/-- how far the reference's row is filled -/
def dm_ (w o : Nat) (f : Nat → Nat) (k h : Nat) (g : Nat → Nat) : Prop := ∀ i, g i = if i < rw_ w ∧ (k0_ w o i * nb2_ w + k1_ w o i < k ∨ (k0_ w o i * nb2_ w + k1_ w o i = k ∧ k2_ w o i < h)) then fn_ w o f i else 0
theorem nb2_p (w : Nat) : nb2_ w = 16 ∨ nb2_ w = 2 := by
  unfold nb2_
  by_cases e : w = 0
  · rw [if_pos e]; exact Or.inl rfl
  · rw [if_neg e]; exact Or.inr rfl
theorem lin_iff {nb a b k : Nat} (hnb : nb = 16 ∨ nb = 2) (hb : b < nb) : a * nb + b = k ↔ a = k / nb ∧ b = k % nb := by
  rcases hnb with rfl | rfl <;> omega
theorem dm_here {w o : Nat} (hw : w < 2) (ho : o < 6) {f : Nat → Nat} {k h : Nat} {g : Nat → Nat} (hk : k < 8 * nb2_ w) (hh : h < 8) (hd : dm_ w o f k h g) : g (ix_ w o (k / nb2_ w) (k % nb2_ w) h) = 0 := by
  have hnb := nb2_p w
  have ha : k / nb2_ w < 8 := by rcases hnb with e | e <;> rw [e] at hk ⊢ <;> omega
  have hb : k % nb2_ w < nb2_ w := Nat.mod_lt _ (by rcases hnb with e | e <;> rw [e] <;> decide)
  have hl := ix_lt hw ho _ _ _ ha hb hh
  obtain ⟨q0, q1, q2⟩ := (ix_iff hw ho (ix_ w o (k / nb2_ w) (k % nb2_ w) h) _ _ _ hl ha hb hh).mp rfl
  have q3 := (lin_iff hnb hb).mpr ⟨q0, rfl⟩
  rw [hd _, q1]
  rw [if_neg]
  intro z
  rw [q0, q2] at z
  rw [q0] at q3
  omega
theorem dm_up {w o : Nat} (hw : w < 2) (ho : o < 6) {f : Nat → Nat} {k h : Nat} {g : Nat → Nat} (hk : k < 8 * nb2_ w) (hh : h < 8) (hd : dm_ w o f k h g) : dm_ w o f k (h + 1) (va_up g (ix_ w o (k / nb2_ w) (k % nb2_ w) h) ((f k).testBit h).toNat) := by
  have hnb := nb2_p w
  have ha : k / nb2_ w < 8 := by rcases hnb with e | e <;> rw [e] at hk ⊢ <;> omega
  have hb : k % nb2_ w < nb2_ w := Nat.mod_lt _ (by rcases hnb with e | e <;> rw [e] <;> decide)
  have hl := ix_lt hw ho _ _ _ ha hb hh
  intro i
  have h1l := k1_lt w o i
  by_cases e : i = ix_ w o (k / nb2_ w) (k % nb2_ w) h
  · have hi : i < rw_ w := by rw [e]; exact hl
    obtain ⟨q0, q1, q2⟩ := (ix_iff hw ho i _ _ _ hi ha hb hh).mp e
    have q3 : k0_ w o i * nb2_ w + k1_ w o i = k := (lin_iff hnb h1l).mpr ⟨q0, q1⟩
    rw [if_pos ⟨hi, Or.inr ⟨q3, by omega⟩⟩]
    unfold fn_
    rw [q3, q2]
    subst e
    exact up_eq _ _ _
  · rw [up_ne e, hd i]
    by_cases hi : i < rw_ w
    · have hne : ¬ (k0_ w o i * nb2_ w + k1_ w o i = k ∧ k2_ w o i = h) := fun z => e ((ix_iff hw ho i _ _ _ hi ha hb hh).mpr ⟨((lin_iff hnb h1l).mp z.1).1, ((lin_iff hnb h1l).mp z.1).2, z.2⟩)
      generalize k0_ w o i * nb2_ w + k1_ w o i = y at hne ⊢
      by_cases q : y < k ∨ (y = k ∧ k2_ w o i < h)
      · rw [if_pos ⟨hi, q⟩, if_pos ⟨hi, by omega⟩]
      · rw [if_neg (fun z => q z.2), if_neg (fun z => by have := z.2; omega)]
    · rw [if_neg (fun z => hi z.1), if_neg (fun z => hi z.1)]
theorem dm_next {w o : Nat} {f : Nat → Nat} {k : Nat} {g : Nat → Nat} (hd : dm_ w o f k 8 g) : dm_ w o f (k + 1) 0 g := by
  intro i
  rw [hd i]
  have h2 := kk2_lt w o i
  generalize k0_ w o i * nb2_ w + k1_ w o i = y
  by_cases q : i < rw_ w ∧ y < k + 1
  · rw [if_pos ⟨q.1, by omega⟩, if_pos ⟨q.1, by omega⟩]
  · rw [if_neg (by omega), if_neg (by omega)]
theorem dm_0 {w o : Nat} {f : Nat → Nat} : dm_ w o f 0 0 (fun _ => 0) := fun i => by
  rw [if_neg (by omega)]
theorem dm_end {w o : Nat} {f g : Nat → Nat} (hd : dm_ w o f (8 * nb2_ w) 0 g) : g = fun i => if i < rw_ w then fn_ w o f i else 0 := by
  funext i
  rw [hd i]
  have h0 := k0_lt w o i
  have h1 := k1_lt w o i
  have h3 : k0_ w o i * nb2_ w + k1_ w o i < 8 * nb2_ w := by rcases nb2_p w with e | e <;> rw [e] at h1 ⊢ <;> omega
  by_cases q : i < rw_ w
  · rw [if_pos ⟨q, Or.inl h3⟩, if_pos q]
  · rw [if_neg (fun z => q z.1), if_neg q]
theorem dm_01 {w o : Nat} {f : Nat → Nat} {k h : Nat} {g : Nat → Nat} (hd : dm_ w o f k h g) (i : Nat) : g i = 0 ∨ g i = 1 := by
  have h2 := fn_2 w o f i
  rw [hd i]
  by_cases q : i < rw_ w ∧ (k0_ w o i * nb2_ w + k1_ w o i < k ∨ (k0_ w o i * nb2_ w + k1_ w o i = k ∧ k2_ w o i < h))
  · rw [if_pos q]; omega
  · rw [if_neg q]; exact Or.inl rfl
/-! levels, the reference's way: from the largest blocks down -/
theorem sm_1 (F : Nat → Nat) : ∀ n, sm_ F (n + 1) = F 0 + sm_ (fun k => F (k + 1)) n
  | 0 => by show 0 + F 0 = F 0 + 0; omega
  | n + 1 => by
    show sm_ F (n + 1) + F (n + 1) = F 0 + (sm_ (fun k => F (k + 1)) n + F (n + 1))
    rw [sm_1 F n]
    omega
theorem sm_rev : ∀ (n : Nat) (F : Nat → Nat), sm_ (fun t => F (n - 1 - t)) n = sm_ F n
  | 0, _ => rfl
  | n + 1, F => by
    show sm_ (fun t => F (n + 1 - 1 - t)) n + F (n + 1 - 1 - n) = _
    rw [sm_1 F n, ← sm_rev n (fun k => F (k + 1))]
    have e1 : n + 1 - 1 - n = 0 := by omega
    rw [e1, Nat.add_comm]
    congr 1
    refine sm_eq n (fun k hk => ?_)
    show F (n + 1 - 1 - k) = F (n - 1 - k + 1)
    congr 1
    omega
def ld2_ (f : Nat → Nat) (q : Nat) : Nat → Nat := sm_ (fun t => ct_ f (2 ^ (q - 1 - t)) (2 ^ t))
theorem ld2_lv (f : Nat → Nat) (q : Nat) : ld2_ f q q = lv2_ f q q := by
  unfold ld2_ lv2_
  rw [← sm_rev q (fun u => ct_ f (2 ^ u) (2 ^ (q - 1 - u)))]
  refine sm_eq q (fun t ht => ?_)
  show ct_ f (2 ^ (q - 1 - t)) (2 ^ t) = ct_ f (2 ^ (q - 1 - t)) (2 ^ (q - 1 - (q - 1 - t)))
  rw [show q - 1 - (q - 1 - t) = t by omega]
theorem ld2_le (f : Nat → Nat) (q : Nat) : ∀ t, ld2_ f q t + 1 ≤ 2 ^ t
  | 0 => Nat.le_refl _
  | t + 1 => by
    have ih := ld2_le f q t
    have h1 := ct_le f (2 ^ (q - 1 - t)) (2 ^ t)
    show ld2_ f q t + ct_ f (2 ^ (q - 1 - t)) (2 ^ t) + 1 ≤ 2 ^ (t + 1)
    rw [Nat.pow_succ]
    omega
theorem nb_mono {f : Nat → Nat} {s i j : Nat} : ∀ {n : Nat}, j ≤ n → nb_ f s i j = false → nb_ f s i n = false
  | 0, h, e => by obtain rfl : j = 0 := by omega
                  exact e
  | n + 1, h, e => by
    by_cases q : j = n + 1
    · subst q; exact e
    · have ih := nb_mono (n := n) (by omega) e
      show (nb_ f s i n && !sa_ f (2 * s * i) (2 * s * n) (2 * s)) = false
      rw [ih]
      rfl
