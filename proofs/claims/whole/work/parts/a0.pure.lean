theorem fg_1 (e : Nat) : (if e = 0 then 1 else 1) = 1 := by by_cases z : e = 0; rw [if_pos z]; rw [if_neg z]
/-- the flag, where a step's own flag is known -/
theorem fq_use {f : rs_ → rs_} (h : fq_ f) (s : rs_) : f s = ((f (s.1, s.2.1, 0)).1, (f (s.1, s.2.1, 0)).2.1, if (f (s.1, s.2.1, 0)).2.2 = 0 then s.2.2 else 1) := h s.1 s.2.1 s.2.2
theorem S5_cg {t t' : sg} (h11 : t 11 = t' 11) (h12 : t 12 = t' 12) : S5_ t = S5_ t' := by
  funext C nc
  unfold S5_ f2_
  rw [br_cg h11 h12]
theorem gd_S5 {t : sg} {nc : Nat} (h : ok_ t (cr_ t nc) nc) : gd_ (S5_ t (cr_ t nc) nc) = gd_ (so_ t (cr_ t nc) nc) := by
  rw [Bool.eq_iff_iff]
  constructor
  · intro q
    refine gd_t (fun k hk => ?_)
    have h1 := gd_of q k hk
    have h2 : S5_ t (cr_ t nc) nc k = min 9 (so_ t (cr_ t nc) nc k) := sn_2 h _ hk
    omega
  · intro q
    refine gd_t (fun k hk => ?_)
    have h1 := gd_of q k hk
    have h2 : S5_ t (cr_ t nc) nc k = min 9 (so_ t (cr_ t nc) nc k) := sn_2 h _ hk
    omega
theorem S5_so {t : sg} {nc : Nat} (h : ok_ t (cr_ t nc) nc) (hg : gd_ (so_ t (cr_ t nc) nc) = true) {k : Nat} (hk : k < 4) : S5_ t (cr_ t nc) nc k = so_ t (cr_ t nc) nc k := by
  have h1 := gd_of hg k hk
  have h2 : S5_ t (cr_ t nc) nc k = min 9 (so_ t (cr_ t nc) nc k) := sn_2 h _ hk
  omega
/-- the reference's cells behind a good numbering, behind a refused one -/
def mn2_ (σ : sg) : sg := ua (ua σ 41 (rch_ (cr_ (mo_ σ) (σ 28 7)))) 42 (S5_ (mo_ σ) (cr_ (mo_ σ) (σ 28 7)) (σ 28 7))
def my0_ (σ : sg) (b s : Nat → Nat) : sg := ua (ua (ua (mn2_ σ) 43 (ct2_ (mo_ σ) (σ 28 7))) 44 b) 45 s
def my_ (σ : sg) : sg := us (my0_ σ (fb_ (mo_ σ) (σ 28 7) (σ 44)) (fun k => if k < σ 28 7 then σ 35 k else σ 45 k)) 28 17 (σ 28 7)
theorem my_b (σ : sg) (b s : Nat → Nat) (i x y : Nat) : us (us (my0_ σ b s) 44 i x) 45 i y = my0_ σ (va_up b i x) (va_up s i y) := by
  funext c
  unfold us my0_
  by_cases h45 : c = 45
  · subst h45; rw [ua_eq, ua_eq]; rfl
  · rw [ua_ne h45, ua_ne h45]
    by_cases h44 : c = 44
    · subst h44; rw [ua_eq, ua_eq]; rfl
    · rw [ua_ne h44, ua_ne h44, ua_ne h45, ua_ne h44]
theorem my_0 (σ : sg) : ua (mn2_ σ) 43 (ct2_ (mo_ σ) (σ 28 7)) = my0_ σ (σ 44) (σ 45) := by
  funext c
  unfold my0_
  by_cases h45 : c = 45
  · subst h45; rw [ua_eq]; rfl
  · rw [ua_ne h45]
    by_cases h44 : c = 44
    · subst h44; rw [ua_eq]; rfl
    · rw [ua_ne h44]
theorem mr_z (σ : sg) (p h : Nat → Nat) (g : Nat) : ua (ua σ 46 p) 47 h = mr_ σ (p, h, g) := rfl
