/-! the reference's table, while it is filled -/
theorem t16 {P : Nat → Prop} (h : ∀ a b, a < 4 → b < 4 → P (4 * a + b)) : ∀ k, k < 16 → P k := fun k hk => by
  have := h (k / 4) (k % 4) (by omega) (by omega)
  rwa [show 4 * (k / 4) + k % 4 = k by omega] at this
/-- the table says C, but the first a0 rows and b0 of the next say D -/
def tb2_ (C D : rl_) (a0 b0 : Nat) (g : Nat → Nat) : Prop := ∀ a b, a < 4 → b < 4 → g (4 * a + b) = (if a < a0 ∨ (a = a0 ∧ b < b0) then rx_ D a b else rx_ C a b).toNat
theorem tb2_up {C D : rl_} {a0 b0 x : Nat} {g : Nat → Nat} (h : tb2_ C D a0 b0 g) (hb0 : b0 < 4) (hx : x = (rx_ D a0 b0).toNat) : tb2_ C D a0 (b0 + 1) (va_up g (4 * a0 + b0) x) := by
  intro a b ha hb
  by_cases e : 4 * a + b = 4 * a0 + b0
  · obtain ⟨rfl, rfl⟩ : a = a0 ∧ b = b0 := by omega
    rw [up_eq, if_pos (by omega), hx]
  · rw [up_ne e, h a b ha hb]
    by_cases q : a < a0 ∨ (a = a0 ∧ b < b0)
    · rw [if_pos q, if_pos (by omega)]
    · rw [if_neg q, if_neg (by omega)]
theorem tb2_next {C D : rl_} {a0 : Nat} {g : Nat → Nat} (h : tb2_ C D a0 4 g) : tb2_ C D (a0 + 1) 0 g := by
  intro a b ha hb
  rw [h a b ha hb]
  by_cases q : a < a0 + 1
  · rw [if_pos (by omega), if_pos (by omega)]
  · rw [if_neg (by omega), if_neg (by omega)]
theorem tb2_0 {C D : rl_} {g : Nat → Nat} (h : ∀ a b, a < 4 → b < 4 → g (4 * a + b) = (rx_ C a b).toNat) : tb2_ C D 0 0 g := by
  intro a b ha hb
  rw [h a b ha hb, if_neg (by omega)]
theorem tb2_end {C D : rl_} {g : Nat → Nat} (h : tb2_ C D 4 0 g) : ∀ a b, a < 4 → b < 4 → g (4 * a + b) = (rx_ D a b).toNat := by
  intro a b ha hb
  rw [h a b ha hb, if_pos (by omega)]
/-- while the middle is m: the row of m and the column of m stay -/
theorem tb2_col {C : rl_} {m a0 b0 : Nat} {g : Nat → Nat} (h : tb2_ C (w1_ m C) a0 b0 g) {a : Nat} (ha : a < 4) (hm : m < 4) : g (4 * a + m) = (rx_ C a m).toNat := by
  rw [h a m ha hm]
  by_cases q : a < a0 ∨ (a = a0 ∧ m < b0)
  · rw [if_pos q, rx_col]
  · rw [if_neg q]
theorem tb2_row {C : rl_} {m a0 b0 : Nat} {g : Nat → Nat} (h : tb2_ C (w1_ m C) a0 b0 g) {b : Nat} (hb : b < 4) (hm : m < 4) : g (4 * m + b) = (rx_ C m b).toNat := by
  rw [h m b hm hb]
  by_cases q : m < a0 ∨ (m = a0 ∧ b < b0)
  · rw [if_pos q, rx_row]
  · rw [if_neg q]
theorem tb2_here {C D : rl_} {a0 b0 : Nat} {g : Nat → Nat} (h : tb2_ C D a0 b0 g) (ha : a0 < 4) (hb : b0 < 4) : g (4 * a0 + b0) = (rx_ C a0 b0).toNat := by
  rw [h a0 b0 ha hb, if_neg (by omega)]
/-- the reference's counts -/
def S5_ (t : sg) (C : rl_) (nc : Nat) : Nat → Nat := sn_ (f2_ t C nc) (fun _ => 1) 5
theorem cl9_9 (n : Nat) : cl9 n ≤ 9 := by
  unfold cl9
  by_cases e : n = 0
  · rw [if_pos e]; decide
  · rw [if_neg e]
    by_cases e9 : 9 < n
    · rw [if_pos e9]; exact Nat.le_refl _
    · rw [if_neg e9]; omega
theorem sw_9 {t : sg} {C : rl_} {nc : Nat} {f : Nat → Nat} (hf : ∀ a, f a ≤ 9) : ∀ n a, sw_ (f2_ t C nc) f n a ≤ 9
  | 0, a => hf a
  | n + 1, a => by
    show va_up (sw_ (f2_ t C nc) f n) n (f2_ t C nc (sw_ (f2_ t C nc) f n) n) a ≤ 9
    by_cases e : a = n
    · subst e; rw [up_eq]; exact cl9_9 _
    · rw [up_ne e]; exact sw_9 hf n a
theorem sn_9 {t : sg} {C : rl_} {nc : Nat} : ∀ n a, sn_ (f2_ t C nc) (fun _ => 1) n a ≤ 9
  | 0, a => by show 1 ≤ 9; decide
  | n + 1, a => sw_9 (sn_9 n) 4 a
theorem br_72 {t : sg} {C : rl_} {f : Nat → Nat} {m n : Nat} (hf : ∀ a, f a ≤ 9) (hn : n ≤ 8) : br_ t C f m n ≤ 72 := by
  have h := sm_cap (f := b1_ t C f m) (b := 9) n (fun k _ => by
    unfold b1_
    by_cases e : (ou_ t C k && gp_ C (t 12 k) m) = true
    · rw [if_pos e]; exact hf _
    · rw [if_neg e]; decide)
  unfold br_
  omega
theorem fw_st (t : sg) (v h : Nat) : fw_ t v h ||| (t 6 v / 2 ^ t 5 h &&& 1) * 2 ^ h = fw_ t v (h + 1) := by
  show _ = fw_ t v h ||| (if (t 6 v).testBit (t 5 h) = true then 1 * 2 ^ h else 0)
  rw [bt_and]
  cases (t 6 v).testBit (t 5 h) with
  | true => rfl
  | false => rw [if_neg (by decide)]; show fw_ t v h ||| 0 * 2 ^ h = _; rw [Nat.zero_mul]
theorem ha_st (hl : Nat → Nat) (set f h : Nat) : ha_ hl set f (h + 1) = ha_ hl set f h ||| (if set.testBit h = true then hl (h * 2 + f) else 0) := rfl
