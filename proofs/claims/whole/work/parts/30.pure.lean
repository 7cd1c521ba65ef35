/-! what the folds read of the told program -/
theorem fw_cg {t t' : sg} (h5 : t 5 = t' 5) (h6 : t 6 = t' 6) (v : Nat) : ∀ n, fw_ t v n = fw_ t' v n
  | 0 => rfl
  | n + 1 => by
    show fw_ t v n ||| (if (t 6 v).testBit (t 5 n) = true then 1 * 2 ^ n else 0) = fw_ t' v n ||| (if (t' 6 v).testBit (t' 5 n) = true then 1 * 2 ^ n else 0)
    rw [fw_cg h5 h6 v n, h5, h6]
theorem ft_cg {t t' : sg} (h5 : t 5 = t' 5) (h6 : t 6 = t' 6) : ft_ t = ft_ t' := by
  funext v
  exact fw_cg h5 h6 v 8
theorem sx_cg {t t' : sg} (h7 : t 7 = t' 7) (h8 : t 8 = t' 8) (h9 : t 9 = t' 9) (h10 : t 10 = t' 10) : sx_ t = sx_ t' := by
  funext w k c s
  unfold sx_
  rw [h7, h8, h9, h10]
theorem ss_cg {t t' : sg} (h7 : t 7 = t' 7) (h8 : t 8 = t' 8) (h9 : t 9 = t' 9) (h10 : t 10 = t' 10) : ss_ t = ss_ t' := by
  funext w mn n s
  unfold ss_
  rw [sx_cg h7 h8 h9 h10, h8]
theorem pa_cg {t t' : sg} (h14 : t 14 = t' 14) (h15 : t 15 = t' 15) (h16 : t 16 = t' 16) : pa_ t = pa_ t' := by
  funext w c d q s
  unfold pa_
  rw [h14, h15, h16]
theorem cs_cg {t t' : sg} (h11 : t 11 = t' 11) (h13 : t 13 = t' 13) (h14 : t 14 = t' 14) (h15 : t 15 = t' 15) (h16 : t 16 = t' 16) : cs_ t = cs_ t' := by
  funext w mn bs n s
  unfold cs_ pp_
  rw [pa_cg h14 h15 h16, h11, h13]
theorem c0_cg {t t' : sg} (h11 : t 11 = t' 11) (h12 : t 12 = t' 12) : c0_ t = c0_ t' := by
  funext n
  induction n with
  | zero => rfl
  | succ n ih =>
    funext a b
    show (c0_ t n a b || (t 11 n == a && t 12 n == b)) = (c0_ t' n a b || (t' 11 n == a && t' 12 n == b))
    rw [ih, h11, h12]
theorem br_cg {t t' : sg} (h11 : t 11 = t' 11) (h12 : t 12 = t' 12) : br_ t = br_ t' := by
  funext C f m n
  unfold br_ b1_ ou_
  rw [h11, h12]
/-- the state at the first round -/
theorem rn_0 (σ : sg) (z w : Nat → Nat) : us (ua (ua (ua σ 21 z) 22 z) 23 w) 3 3 1 = sr_ (ua σ 23 w) (z, z, 1) := by
  funext b
  unfold us sr_
  by_cases h3 : b = 3
  · subst h3; rw [ua_eq, ua_eq]; rfl
  · rw [ua_ne h3, ua_ne h3]
    by_cases h22 : b = 22
    · subst h22; rw [ua_eq]; rfl
    · rw [ua_ne h22]
      by_cases h21 : b = 21
      · subst h21; rw [ua_eq]; rfl
      · rw [ua_ne h21]
        by_cases h23 : b = 23
        · subst h23; rw [ua_eq, ua_eq]
        · rw [ua_ne h23, ua_ne h23, ua_ne h22, ua_ne h21]
theorem rn_g (σ : sg) (s : rs_) (x : Nat) : us (sr_ σ s) 3 3 x = sr_ σ (s.1, s.2.1, x) := by
  funext b
  unfold us
  by_cases h3 : b = 3
  · subst h3
    rw [ua_eq]
    show va_up (va_up (σ 3) 3 s.2.2) 3 x = va_up (σ 3) 3 x
    exact bx_uu _ _ _ _
  · rw [ua_ne h3]
    unfold sr_
    rw [ua_ne h3, ua_ne h3]
theorem B_0 (x : Nat) : B_ (fun _ => 0, fun _ => 0, x) := ⟨fun _ => by show 0 < 256; decide, fun _ => by show 0 < 256; decide⟩
theorem rd_B {t : sg} {w mn bs : Nat → Nat} {ns nc : Nat} {s : rs_} (hw : ∀ k, w k < 256) (hs : B_ s) : B_ (rd_ t w mn bs ns nc s) := cs_B hw (ss_B hw hs)
theorem lo_B {f : rs_ → rs_} (hf : ∀ s, B_ s → B_ (f s)) : ∀ n s, B_ s → B_ (lo_ f n s)
  | 0, _, hs => hs
  | n + 1, s, hs => by
    show B_ (if s.2.2 = 0 then s else lo_ f n (f s))
    by_cases e : s.2.2 = 0
    · rw [if_pos e]; exact hs
    · rw [if_neg e]; exact lo_B hf n _ (hf s hs)
/-- what the rounds come to: the class's own way -/
def fin_ (t : sg) (mn bs : Nat → Nat) (ns nc : Nat) : rs_ := lo_ (rd_ t (ft_ t) mn bs ns nc) 1153 (fun _ => 0, fun _ => 0, 1)
/-- flags are 0 or 1 -/
def fl_ (s : rs_) : Prop := s.2.2 = 0 ∨ s.2.2 = 1
theorem it_fl {f : Nat → rs_ → rs_} (h : ∀ k s, fl_ s → fl_ (f k s)) : ∀ n s, fl_ s → fl_ (it_ f n s)
  | 0, _, hs => hs
  | n + 1, s, hs => h n _ (it_fl h n s hs)
theorem ad_fl {w : Nat → Nat} {c v x : Nat} {s : rs_} (hs : fl_ s) : fl_ (ad_ w c v x s) := by
  unfold fl_ ad_
  by_cases e : s.1 (c * 16 + v) ||| (x &&& w v) = s.1 (c * 16 + v)
  · rw [if_pos e]; exact hs
  · rw [if_neg e]; exact Or.inr rfl
theorem h1_fl {f x h : Nat} {s : rs_} (hs : fl_ s) : fl_ (h1_ f x h s) := by
  unfold fl_ h1_
  by_cases e : s.2.1 (h * 2 + f) ||| x = s.2.1 (h * 2 + f)
  · rw [if_pos e]; exact hs
  · rw [if_neg e]; exact Or.inr rfl
theorem hs_fl {set f x n : Nat} {s : rs_} (hs : fl_ s) : fl_ (hs_ set f x n s) := it_fl (fun k s hs => by
  show fl_ (if set.testBit k = true then h1_ f x k s else s)
  by_cases e : set.testBit k = true
  · rw [if_pos e]; exact h1_fl hs
  · rw [if_neg e]; exact hs) n s hs
theorem sx_fl {t : sg} {w : Nat → Nat} {k c : Nat} {s : rs_} (hs : fl_ s) : fl_ (sx_ t w k c s) := by
  unfold sx_
  by_cases e0 : t 7 k = 0
  · rw [if_pos e0]; exact ad_fl hs
  · rw [if_neg e0]
    by_cases e1 : t 7 k = 1
    · rw [if_pos e1]; exact ad_fl hs
    · rw [if_neg e1]
      by_cases e2 : t 7 k = 2
      · rw [if_pos e2]; exact hs_fl hs
      · rw [if_neg e2]; exact ad_fl hs
theorem ss_fl {t : sg} {w mn : Nat → Nat} {n : Nat} {s : rs_} (hs : fl_ s) : fl_ (ss_ t w mn n s) := it_fl (fun _ s hs => it_fl (fun _ s hs => sx_fl hs) _ s hs) n s hs
theorem pa_fl {t : sg} {w : Nat → Nat} {c d q : Nat} {s : rs_} (hs : fl_ s) : fl_ (pa_ t w c d q s) := by
  unfold pa_
  by_cases e : t 16 q = 0
  · rw [if_pos e]; exact ad_fl hs
  · rw [if_neg e]; exact ad_fl hs
theorem pp_fl {t : sg} {w : Nat → Nat} {k c d n : Nat} {s : rs_} (hs : fl_ s) : fl_ (pp_ t w k c d n s) := it_fl (fun _ s hs => pa_fl hs) n s hs
theorem cs_fl {t : sg} {w mn bs : Nat → Nat} {n : Nat} {s : rs_} (hs : fl_ s) : fl_ (cs_ t w mn bs n s) := it_fl (fun _ s hs => it_fl (fun _ s hs => pp_fl hs) _ s hs) n s hs
theorem rd_fl {t : sg} {w mn bs : Nat → Nat} {ns nc : Nat} {s : rs_} : fl_ (rd_ t w mn bs ns nc s) := cs_fl (ss_fl (Or.inl rfl))
