section CV
variable {p : Program} {l : Launch} {e : Env} {R : Room} {s : State} {m : MethodId} {args : Array Value} {below : List Frame} {meth : Method} {c : Code} {Q : State → Prop}
variable {X : wX} {nL : Nat} {L : List (Nat × Value)} {σ : sg} {pc : Nat} {st : List Value} {cc : ByteArray} {own : String}
theorem qv_ifge (F : fx_ p s m args c cc nL own X) {a : Nat} {off : Int} {tgt : Nat} (hd : decode cc pc = .ok (.ifCond .ge off, 3)) (ht : (pc : Int) + off = (tgt : Int)) (ha : a < 2 ^ 31) (k : vv_ p l e R s m args below meth c Q X nL L σ tgt st) : vv_ p l e R s m args below meth c Q X nL L σ pc (.int (nI a) :: st) :=
  fun H locs ls h hP hS => lv_if_ge (fx_x F) (fx_b F) hd ht (fun _ => k H locs ls h hP hS) (fun q => absurd (nI_pos' ha) q)
theorem qv_ifltF (F : fx_ p s m args c cc nL own X) {a : Nat} {off : Int} {tgt : Nat} (hd : decode cc pc = .ok (.ifCond .lt off, 3)) (ht : (pc : Int) + off = (tgt : Int)) (ha : a < 2 ^ 31) (k : vv_ p l e R s m args below meth c Q X nL L σ (pc + 3) st) : vv_ p l e R s m args below meth c Q X nL L σ pc (.int (nI a) :: st) :=
  fun H locs ls h hP hS => lv_if_lt (fx_x F) (fx_b F) hd ht (fun q => absurd q (nI_pos ha)) (fun _ => k H locs ls h hP hS)
theorem qv_ifltT (F : fx_ p s m args c cc nL own X) {x : Int32} {off : Int} {tgt : Nat} (hd : decode cc pc = .ok (.ifCond .lt off, 3)) (ht : (pc : Int) + off = (tgt : Int)) (hx : x < 0) (k : vv_ p l e R s m args below meth c Q X nL L σ tgt st) : vv_ p l e R s m args below meth c Q X nL L σ pc (.int x :: st) :=
  fun H locs ls h hP hS => lv_if_lt (fx_x F) (fx_b F) hd ht (fun _ => k H locs ls h hP hS) (fun q => absurd hx q)
end CV
/-! the diagram's own cells -/
def dg_ (σ : sg) (w o : Nat) (G : Nat → Nat) : sg := ua (us (ua σ 24 (sh_ w o)) 4 2 (rw_ w)) 25 G
theorem rw_le (w : Nat) : rw_ w ≤ 1024 := by unfold rw_; by_cases e : w = 0; rw [if_pos e]; exact Nat.le_refl _; rw [if_neg e]; decide
theorem bg_rw {w o : Nat} (hw : w < 2) (ho : o < 6) : 1 * 2 ^ (0 + bitT.getD (w * 3 + staT.getD (o * 3 + 2) 0) 0 + bitT.getD (w * 3 + staT.getD (o * 3 + 1) 0) 0 + bitT.getD (w * 3 + staT.getD (o * 3 + 0) 0) 0) = rw_ w :=
  ix_12 (P := fun w o => 1 * 2 ^ (0 + bitT.getD (w * 3 + staT.getD (o * 3 + 2) 0) 0 + bitT.getD (w * 3 + staT.getD (o * 3 + 1) 0) 0 + bitT.getD (w * 3 + staT.getD (o * 3 + 0) 0) 0) = rw_ w) (by decide) (by decide) (by decide) (by decide) (by decide) (by decide) (by decide) (by decide) (by decide) (by decide) (by decide) (by decide) hw ho
theorem bg_3 {P : Nat → Prop} (h0 : P 0) (h1 : P 1) (h2 : P 2) : ∀ k, k < 3 → P k := fun k hk => by
  rcases (by omega : k = 0 ∨ k = 1 ∨ k = 2) with rfl | rfl | rfl <;> assumption
def bgc_ (f : Nat → Nat) (w o : Nat) : Nat → Nat := va_up (va_up (va_up f (staT.getD (o * 3 + 2) 0) 0) (staT.getD (o * 3 + 1) 0) (0 + bitT.getD (w * 3 + staT.getD (o * 3 + 2) 0) 0)) (staT.getD (o * 3 + 0) 0) (0 + bitT.getD (w * 3 + staT.getD (o * 3 + 2) 0) 0 + bitT.getD (w * 3 + staT.getD (o * 3 + 1) 0) 0)
theorem bg_sh (f : Nat → Nat) {w o : Nat} (hw : w < 2) (ho : o < 6) : ∀ k, k < 3 → sh_ w o k = bgc_ f w o k :=
  ix_12 (P := fun w o => ∀ k, k < 3 → sh_ w o k = bgc_ f w o k) (bg_3 rfl rfl rfl) (bg_3 rfl rfl rfl) (bg_3 rfl rfl rfl) (bg_3 rfl rfl rfl) (bg_3 rfl rfl rfl) (bg_3 rfl rfl rfl) (bg_3 rfl rfl rfl) (bg_3 rfl rfl rfl) (bg_3 rfl rfl rfl) (bg_3 rfl rfl rfl) (bg_3 rfl rfl rfl) (bg_3 rfl rfl rfl) hw ho
theorem bg_st (σ : sg) (c : Nat → Nat) (w o x : Nat) (G : Nat → Nat) : ua (ua (us (ua σ 24 c) 4 2 (rw_ w)) 25 G) 24 (sh_ w o) = dg_ σ w o G := by
  funext b
  unfold dg_ us
  by_cases h24 : b = 24
  · subst h24; rw [ua_eq, ua_ne (by decide), ua_ne (by decide), ua_eq]
  · rw [ua_ne h24]
    by_cases h25 : b = 25
    · subst h25; rw [ua_eq, ua_eq]
    · rw [ua_ne h25, ua_ne h25]
      by_cases h4 : b = 4
      · subst h4; rw [ua_eq, ua_eq]; rfl
      · rw [ua_ne h4, ua_ne h4, ua_ne h24, ua_ne h24]
theorem dg_G (σ : sg) (w o : Nat) (G G' : Nat → Nat) : ua (dg_ σ w o G) 25 G' = dg_ σ w o G' := ua_ua _ _ _ _
/-- how far a relation has been drawn: c rows, and v of the next -/
def dn_ (w o : Nat) (f old : Nat → Nat) (c v : Nat) (G : Nat → Nat) : Prop := ∀ k, G k = if k < rw_ w then (if k0_ w o k < c ∨ (k0_ w o k = c ∧ k1_ w o k < v) then fn_ w o f k else 0) else old k
theorem dn_row {w o : Nat} (hw : w < 2) (ho : o < 6) {f old : Nat → Nat} {c v : Nat} {G : Nat → Nat} (hc : c < 8) (hv : v < nb2_ w) (h : dn_ w o f old c v G) : dn_ w o f old c (v + 1) (if f (c * nb2_ w + v) = 0 then G else dr_ w o c v (f (c * nb2_ w + v)) 8 G) := by
  intro k
  by_cases hk : k < rw_ w
  · have h1 := h k
    rw [if_pos hk] at h1 ⊢
    have h2 := kk2_lt w o k
    by_cases e : k0_ w o k = c ∧ k1_ w o k = v
    · have e3 : fn_ w o f k = ((f (c * nb2_ w + v)).testBit (k2_ w o k)).toNat := by unfold fn_; rw [e.1, e.2]
      rw [if_pos (show k0_ w o k < c ∨ (k0_ w o k = c ∧ k1_ w o k < v + 1) by omega), e3]
      by_cases z : f (c * nb2_ w + v) = 0
      · rw [if_pos z, h1, if_neg (show ¬ (k0_ w o k < c ∨ (k0_ w o k = c ∧ k1_ w o k < v)) by omega), z, Nat.zero_testBit]; rfl
      · rw [if_neg z, dr_at hw ho hc hv hk 8 (Nat.le_refl _), if_pos ⟨e.1, e.2, h2⟩]
    · have e4 : (if f (c * nb2_ w + v) = 0 then G else dr_ w o c v (f (c * nb2_ w + v)) 8 G) k = G k := by
        by_cases z : f (c * nb2_ w + v) = 0
        · rw [if_pos z]
        · rw [if_neg z, dr_at hw ho hc hv hk 8 (Nat.le_refl _), if_neg (by omega)]
      rw [e4, h1]
      by_cases q : k0_ w o k < c ∨ (k0_ w o k = c ∧ k1_ w o k < v)
      · rw [if_pos q, if_pos (by omega)]
      · rw [if_neg q, if_neg (by omega)]
  · have h1 := h k
    rw [if_neg hk] at h1 ⊢
    by_cases z : f (c * nb2_ w + v) = 0
    · rw [if_pos z]; exact h1
    · rw [if_neg z, ← h1]
      exact dr_out hw ho hc hv hk 8 (Nat.le_refl _)
theorem dn_next {w o : Nat} {f old : Nat → Nat} {c : Nat} {G : Nat → Nat} (h : dn_ w o f old c (nb2_ w) G) : dn_ w o f old (c + 1) 0 G := by
  intro k
  rw [h k]
  have h1 := k1_lt w o k
  by_cases hk : k < rw_ w
  · rw [if_pos hk, if_pos hk]
    by_cases q : k0_ w o k < c + 1
    · rw [if_pos (by omega), if_pos (by omega)]
    · rw [if_neg (by omega), if_neg (by omega)]
  · rw [if_neg hk, if_neg hk]
theorem dn_0 {w o : Nat} {f old : Nat → Nat} : dn_ w o f old 0 0 (fun k => if k < rw_ w then 0 else old k) := by
  intro k
  by_cases hk : k < rw_ w
  · show (if k < rw_ w then 0 else old k) = _
    rw [if_pos hk, if_pos hk, if_neg (by omega)]
  · show (if k < rw_ w then 0 else old k) = _
    rw [if_neg hk, if_neg hk]
theorem dn_end {w o : Nat} {f old : Nat → Nat} {G : Nat → Nat} (h : dn_ w o f old 8 0 G) : G = fun k => if k < rw_ w then fn_ w o f k else old k := by
  funext k
  rw [h k]
  have h1 := k0_lt w o k
  by_cases hk : k < rw_ w
  · rw [if_pos hk, if_pos hk, if_pos (by omega)]
  · rw [if_neg hk, if_neg hk]
