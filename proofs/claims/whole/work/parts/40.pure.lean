/-! counts: what the class keeps -/
theorem sw_hb {t : sg} {C : rl_} {nc : Nat} (h : ok_ t C nc) (h8 : nc ≤ 8) {f : Nat → Nat} (hf : hb_ C f) : ∀ n, n ≤ 4 → hb_ C (sw_ (f1_ t C nc) f n)
  | 0, _ => hf
  | n + 1, hn => by
    have ih := sw_hb h h8 hf n (by omega)
    exact hb_up ih (f1_b h h8 ih (by omega))
theorem hb_1 (C : rl_) : hb_ C (fun _ => 1) := fun a _ => Nat.one_le_pow _ _ (by decide)
theorem sn_hb {t : sg} {C : rl_} {nc : Nat} (h : ok_ t C nc) (h8 : nc ≤ 8) : ∀ n, hb_ C (sn_ (f1_ t C nc) (fun _ => 1) n)
  | 0 => hb_1 C
  | n + 1 => sw_hb h h8 (sn_hb h h8 n) 4 (Nat.le_refl _)
def gd_ (S : Nat → Nat) : Bool := decide (S 0 ≤ 8 ∧ S 1 ≤ 8 ∧ S 2 ≤ 8 ∧ S 3 ≤ 8)
theorem gd_t {S : Nat → Nat} (h : ∀ k, k < 4 → S k ≤ 8) : gd_ S = true := decide_eq_true ⟨h 0 (by decide), h 1 (by decide), h 2 (by decide), h 3 (by decide)⟩
theorem gd_f {S : Nat → Nat} {k : Nat} (hk : k < 4) (h : 8 < S k) : gd_ S = false := by
  refine decide_eq_false fun q => ?_
  have e : k = 0 ∨ k = 1 ∨ k = 2 ∨ k = 3 := by omega
  rcases e with rfl | rfl | rfl | rfl <;> omega
theorem gd_of {S : Nat → Nat} (h : gd_ S = true) : ∀ k, k < 4 → S k ≤ 8 := by
  have h := of_decide_eq_true h
  intro k hk
  have e : k = 0 ∨ k = 1 ∨ k = 2 ∨ k = 3 := by omega
  rcases e with rfl | rfl | rfl | rfl <;> omega
theorem gd_cg {S S' : Nat → Nat} (h : ∀ k, k < 4 → S k = S' k) : gd_ S = gd_ S' := by
  unfold gd_
  rw [h 0 (by decide), h 1 (by decide), h 2 (by decide), h 3 (by decide)]
/-- the counts that hold: four methods, one beyond -/
def ct2_ (t : sg) (nc : Nat) : Nat → Nat := fun k => if k < 4 then so_ t (cr_ t nc) nc k else 1
def fb_ (t : sg) (nc : Nat) (old : Nat → Nat) : Nat → Nat := fun k => if k < nc then ba_ t (cr_ t nc) (so_ t (cr_ t nc) nc) k else old k
theorem br_fe {t : sg} {C : rl_} {f g : Nat → Nat} {m : Nat} (h11 : ∀ k, t 11 k < 4) (h : ∀ a, a < 4 → f a = g a) : ∀ n, br_ t C f m n = br_ t C g m n := fun n => sm_eq n (fun k _ => by
  unfold b1_
  by_cases e : (ou_ t C k && gp_ C (t 12 k) m) = true
  · rw [if_pos e, if_pos e]; exact h _ (h11 k)
  · rw [if_neg e, if_neg e])
theorem ba_f {t : sg} {C : rl_} {f g : Nat → Nat} (h11 : ∀ k, t 11 k < 4) (h : ∀ a, a < 4 → f a = g a) (k : Nat) : ba_ t C f k = ba_ t C g k := by
  unfold ba_
  by_cases e : ou_ t C k = true
  · rw [if_pos e, if_pos e]; exact br_fe h11 h k
  · rw [if_neg e, if_neg e]
def S4_ (t : sg) (nc : Nat) : Nat → Nat := sn_ (f1_ t (cr_ t nc) nc) (fun _ => 1) 4
def M4_ (t : sg) (nc : Nat) : Nat → Nat := mk_ (wc_ (c0_ t nc))
/-- the class's cells behind a good numbering, behind a refused one -/
def ny_ (σ : sg) : sg := ua (us (ua (ua (ua σ 19 (M4_ σ (σ 1 7))) 20 (S4_ σ (σ 1 7))) 17 (ct2_ σ (σ 1 7))) 2 2 (σ 1 7)) 18 (fb_ σ (σ 1 7) (σ 18))
def nn_ (σ : sg) : sg := ua (ua σ 19 (M4_ σ (σ 1 7))) 20 (S4_ σ (σ 1 7))
theorem ct2_8 {t : sg} {nc : Nat} (h : gd_ (so_ t (cr_ t nc) nc) = true) (k : Nat) : ct2_ t nc k ≤ 8 := by
  unfold ct2_
  by_cases e : k < 4
  · rw [if_pos e]; exact gd_of h k e
  · rw [if_neg e]; decide
theorem ct2_1 {t : sg} {nc : Nat} (h : ok_ t (cr_ t nc) nc) (k : Nat) : 1 ≤ ct2_ t nc k := by
  unfold ct2_
  by_cases e : k < 4
  · rw [if_pos e]; exact so_pos h e
  · rw [if_neg e]; decide
theorem fb_8 {t : sg} {nc : Nat} {old : Nat → Nat} (h : ok_ t (cr_ t nc) nc) (hg : gd_ (so_ t (cr_ t nc) nc) = true) {k : Nat} (hk : k < nc) : fb_ t nc old k + ct2_ t nc (t 11 k) ≤ 8 := by
  unfold fb_ ct2_
  rw [if_pos hk, if_pos (h.1 k)]
  exact ba_8 h (gd_of hg) hk
theorem fin_cg {t t' : sg} (h5 : t 5 = t' 5) (h6 : t 6 = t' 6) (h7 : t 7 = t' 7) (h8 : t 8 = t' 8) (h9 : t 9 = t' 9) (h10 : t 10 = t' 10) (h11 : t 11 = t' 11) (h13 : t 13 = t' 13) (h14 : t 14 = t' 14) (h15 : t 15 = t' 15) (h16 : t 16 = t' 16) : fin_ t = fin_ t' := by
  funext mn bs ns nc
  unfold fin_ rd_
  rw [ft_cg h5 h6, ss_cg h7 h8 h9 h10, cs_cg h11 h13 h14 h15 h16]
theorem fin_B (t : sg) (mn bs : Nat → Nat) (ns nc : Nat) : B_ (fin_ t mn bs ns nc) := lo_B (fun _ hs => rd_B (ft_lt t) hs) 1153 _ (B_0 1)
