/-! class and reference: what they hold in common -/
def rl2_ (σ : sg) : Prop := (σ 29 = σ 5 ∧ σ 30 = σ 6 ∧ σ 31 = σ 7 ∧ σ 32 = σ 8 ∧ σ 33 = σ 9 ∧ σ 34 = σ 10 ∧ σ 35 = σ 11 ∧ σ 36 = σ 12 ∧ σ 37 = σ 13 ∧ σ 38 = σ 14 ∧ σ 39 = σ 15 ∧ σ 40 = σ 16) ∧ (σ 28 2 = σ 1 2 ∧ σ 28 7 = σ 1 7 ∧ σ 43 = σ 17 ∧ σ 44 = σ 18 ∧ σ 28 17 = σ 2 2 ∧ σ 46 = σ 21 ∧ σ 47 = σ 22 ∧ σ 28 22 = σ 0 4) ∧ ∀ k, k < σ 2 2 → σ 45 k = σ 11 k
def bd2_ (σ : sg) : Prop := σ 1 2 ≤ 40 ∧ σ 1 7 ≤ 8 ∧ σ 2 2 ≤ σ 1 7 ∧ (∀ k, σ 17 k ≤ 8) ∧ (∀ k, σ 21 k < 256) ∧ (∀ k, σ 22 k < 256) ∧ σ 0 4 < 6
def Rl_ (σ : sg) : Prop := rl2_ σ ∧ tw_ σ ∧ bd2_ σ
theorem up_lt {f : Nat → Nat} {i x n : Nat} (h : ∀ k, f k < n) (hx : x < n) : ∀ k, va_up f i x k < n := fun k => by
  by_cases e : k = i
  · subst e; rw [up_eq]; exact hx
  · rw [up_ne e]; exact h k
theorem up_le {f : Nat → Nat} {i x n : Nat} (h : ∀ k, f k ≤ n) (hx : x ≤ n) : ∀ k, va_up f i x k ≤ n := fun k => by
  by_cases e : k = i
  · subst e; rw [up_eq]; exact hx
  · rw [up_ne e]; exact h k
theorem wi_tn {x : Int32} {n : Nat} (hn : n < 2 ^ 31) (h : wi_ x n = true) : tn_ x < n := by
  obtain ⟨j, hj, rfl⟩ := wi_t hn h
  rw [tn_nI (by omega)]
  exact hj
theorem rl_kind {σ : sg} (h : Rl_ σ) {i v : Nat} (hv : v < 4) : Rl_ (us (us σ 5 i v) 29 i v) := by
  obtain ⟨⟨⟨e5, e⟩, f, g⟩, ⟨t5, t⟩, b⟩ := h
  exact ⟨⟨⟨by show va_up (σ 29) i v = va_up (σ 5) i v; rw [e5], e⟩, f, g⟩, ⟨up_lt t5 hv, t⟩, b⟩
theorem rl_accept {σ : sg} (h : Rl_ σ) {i v : Nat} (hv : v < 16) : Rl_ (us (us σ 6 i v) 30 i v) := by
  obtain ⟨⟨⟨e5, e6, e⟩, f, g⟩, ⟨t5, t6, t⟩, b⟩ := h
  exact ⟨⟨⟨e5, by show va_up (σ 30) i v = va_up (σ 6) i v; rw [e6], e⟩, f, g⟩, ⟨t5, up_lt t6 hv, t⟩, b⟩
theorem rl_order {σ : sg} (h : Rl_ σ) {v : Nat} (hv : v < 6) : Rl_ (us (us σ 0 4 v) 28 22 v) := by
  obtain ⟨⟨e, ⟨f1, f2, f3, f4, f5, f6, f7, f8⟩, g⟩, t, b1, b2, b3, b4, b5, b6, b7⟩ := h
  exact ⟨⟨e, ⟨f1, f2, f3, f4, f5, f6, f7, rfl⟩, g⟩, t, b1, b2, b3, b4, b5, b6, hv⟩
theorem rl_as {σ : sg} (h : Rl_ σ) {a v w f : Nat} (hn : σ 1 2 < 40) (ha : a < 4) (hv : v < 16) (hw : w < 16) (hf : f < 2) : Rl_ (asM_ (as_ σ a v w f) a v w f) := by
  obtain ⟨⟨⟨e5, e6, e7, e8, e9, e10, e⟩, ⟨f1, f2, f3, f4, f5, f6, f7, f8⟩, g⟩, ⟨t5, t6, t7, t8, t9, t10, t⟩, b1, b⟩ := h
  refine ⟨⟨⟨e5, e6, ?_, ?_, ?_, ?_, e⟩, ⟨?_, f2, f3, f4, f5, f6, f7, f8⟩, g⟩, ⟨t5, t6, up_lt t7 ha, up_lt t8 hv, up_lt t9 hw, up_lt t10 hf, t⟩, ?_, b⟩
  · show va_up (σ 31) (σ 28 2) a = va_up (σ 7) (σ 1 2) a; rw [e7, f1]
  · show va_up (σ 32) (σ 28 2) v = va_up (σ 8) (σ 1 2) v; rw [e8, f1]
  · show va_up (σ 33) (σ 28 2) w = va_up (σ 9) (σ 1 2) w; rw [e9, f1]
  · show va_up (σ 34) (σ 28 2) f = va_up (σ 10) (σ 1 2) f; rw [e10, f1]
  · show σ 28 2 + 1 = σ 1 2 + 1; rw [f1]
  · show σ 1 2 + 1 ≤ 40; omega
theorem rl_ac {σ : sg} (h : Rl_ σ) {a v : Nat} (hn : σ 1 7 < 8) (ha : a < 4) (hv : v < 4) : Rl_ (acM_ (ac_ σ a v) a v) := by
  obtain ⟨⟨⟨e5, e6, e7, e8, e9, e10, e11, e12, e⟩, ⟨f1, f2, f3, f4, f5, f6, f7, f8⟩, g⟩, ⟨t5, t6, t7, t8, t9, t10, t11, t12, t⟩, b1, b2, b3, b⟩ := h
  refine ⟨⟨⟨e5, e6, e7, e8, e9, e10, ?_, ?_, e⟩, ⟨f1, ?_, f3, f4, f5, f6, f7, f8⟩, ?_⟩, ⟨t5, t6, t7, t8, t9, t10, up_lt t11 ha, up_lt t12 hv, t⟩, b1, ?_, ?_, b⟩
  · show va_up (σ 35) (σ 28 7) a = va_up (σ 11) (σ 1 7) a; rw [e11, f2]
  · show va_up (σ 36) (σ 28 7) v = va_up (σ 12) (σ 1 7) v; rw [e12, f2]
  · show σ 28 7 + 1 = σ 1 7 + 1; rw [f2]
  · intro k hk
    have hk : k < σ 2 2 := hk
    show σ 45 k = va_up (σ 11) (σ 1 7) a k
    rw [up_ne (by omega)]; exact g k hk
  · show σ 1 7 + 1 ≤ 8; omega
  · show σ 2 2 ≤ σ 1 7 + 1; omega
theorem rl_ap {σ : sg} (h : Rl_ σ) {k v w b : Nat} (hn : σ 13 k < 4) (hv : v < 16) (hw : w < 16) (hb : b < 2) : Rl_ (apM_ (ap_ σ k v w b) k v w b) := by
  obtain ⟨⟨⟨e5, e6, e7, e8, e9, e10, e11, e12, e13, e14, e15, e16⟩, f, g⟩, ⟨t5, t6, t7, t8, t9, t10, t11, t12, t13, t14, t15, t16⟩, b0⟩ := h
  have hi : 4 * k + σ 37 k = k * 4 + σ 13 k := by rw [e13]; omega
  refine ⟨⟨⟨e5, e6, e7, e8, e9, e10, e11, e12, ?_, ?_, ?_, ?_⟩, f, g⟩, ⟨t5, t6, t7, t8, t9, t10, t11, t12, up_le t13 (by omega), up_lt t14 hv, up_lt t15 hw, up_lt t16 hb⟩, b0⟩
  · show va_up (σ 37) k (σ 37 k + 1) = va_up (σ 13) k (σ 13 k + 1); rw [e13]
  · show va_up (σ 38) (4 * k + σ 37 k) v = va_up (σ 14) (k * 4 + σ 13 k) v; rw [hi, e14]
  · show va_up (σ 39) (4 * k + σ 37 k) w = va_up (σ 15) (k * 4 + σ 13 k) w; rw [hi, e15]
  · show va_up (σ 40) (4 * k + σ 37 k) b = va_up (σ 16) (k * 4 + σ 13 k) b; rw [hi, e16]
/-! the two at each word -/
theorem gl_kind {σ : sg} (h : Rl_ σ) (x y : Int32) : Rl_ (if (wi_ x 8 && wi_ y 4) = true then us (if (wi_ x 8 && wi_ y 4) = true then us σ 5 (tn_ x) (tn_ y) else σ) 29 (tn_ x) (tn_ y) else (if (wi_ x 8 && wi_ y 4) = true then us σ 5 (tn_ x) (tn_ y) else σ)) := by
  by_cases e : (wi_ x 8 && wi_ y 4) = true
  · rw [if_pos e, if_pos e]; exact rl_kind h (wi_tn (by decide) (Bool.and_eq_true_iff.mp e).2)
  · rw [if_neg e, if_neg e]; exact h
theorem gl_accept {σ : sg} (h : Rl_ σ) (x y : Int32) : Rl_ (if (wi_ x 16 && wi_ y 16) = true then us (if (wi_ x 16 && wi_ y 16) = true then us σ 6 (tn_ x) (tn_ y) else σ) 30 (tn_ x) (tn_ y) else (if (wi_ x 16 && wi_ y 16) = true then us σ 6 (tn_ x) (tn_ y) else σ)) := by
  by_cases e : (wi_ x 16 && wi_ y 16) = true
  · rw [if_pos e, if_pos e]; exact rl_accept h (wi_tn (by decide) (Bool.and_eq_true_iff.mp e).2)
  · rw [if_neg e, if_neg e]; exact h
theorem gl_order {σ : sg} (h : Rl_ σ) (x : Int32) : Rl_ (if wi_ x 6 = true then us (if wi_ x 6 = true then us σ 0 4 (tn_ x) else σ) 28 22 (tn_ x) else (if wi_ x 6 = true then us σ 0 4 (tn_ x) else σ)) := by
  by_cases e : wi_ x 6 = true
  · rw [if_pos e, if_pos e]; exact rl_order h (wi_tn (by decide) e)
  · rw [if_neg e, if_neg e]; exact h
theorem sn2_28 {b : Bool} {σ : sg} {a v w f : Nat} : sn2_ b σ a v w f 28 = σ 28 := by
  unfold sn2_
  by_cases e : b = true
  · rw [if_pos e]
    by_cases q : σ 1 2 < 40
    · rw [if_pos q]; rfl
    · rw [if_neg q]
  · rw [if_neg e]
theorem gl_sn {b : Bool} {σ : sg} (h : Rl_ σ) {a v w f : Nat} (hb : b = true → a < 4 ∧ v < 16 ∧ w < 16 ∧ f < 2) : Rl_ (snM_ b (sn2_ b σ a v w f) a v w f) := by
  have f1 := h.1.2.1.1
  unfold snM_
  rw [sn2_28, f1]
  unfold sn2_
  by_cases e : b = true
  · obtain ⟨h1, h2, h3, h4⟩ := hb e
    rw [if_pos e, if_pos e]
    by_cases q : σ 1 2 < 40
    · rw [if_pos q, if_pos q]; exact rl_as h q h1 h2 h3 h4
    · rw [if_neg q, if_neg q]; exact h
  · rw [if_neg e, if_neg e]; exact h
theorem cs2_28 {b : Bool} {σ : sg} {a v : Nat} : cs2_ b σ a v 28 = σ 28 := by
  unfold cs2_
  by_cases e : b = true
  · rw [if_pos e]
    by_cases q : σ 1 7 < 8
    · rw [if_pos q]; rfl
    · rw [if_neg q]
  · rw [if_neg e]
theorem gl_cs {b : Bool} {σ : sg} (h : Rl_ σ) {a v : Nat} (hb : b = true → a < 4 ∧ v < 4) : Rl_ (csM_ b (cs2_ b σ a v) a v) := by
  have f2 := h.1.2.1.2.1
  unfold csM_
  rw [cs2_28, f2]
  unfold cs2_
  by_cases e : b = true
  · obtain ⟨h1, h2⟩ := hb e
    rw [if_pos e, if_pos e]
    by_cases q : σ 1 7 < 8
    · rw [if_pos q, if_pos q]; exact rl_ac h q h1 h2
    · rw [if_neg q, if_neg q]; exact h
  · rw [if_neg e, if_neg e]; exact h
def pc2_ (σ : sg) (x y z : Int32) (b : Bool) : sg := if mp_ σ (σ 1 7) x y z b = true then (if σ 13 (tn_ x) < 4 then ap_ σ (tn_ x) (tn_ y) (tn_ z) b.toNat else σ) else σ
def pcM_ (σ : sg) (x y z : Int32) (b : Bool) : sg := if mp_ (mo_ σ) (σ 28 7) x y z b = true then (if σ 37 (tn_ x) < 4 then apM_ σ (tn_ x) (tn_ y) (tn_ z) b.toNat else σ) else σ
theorem pc2_hi {σ : sg} {x y z : Int32} {b : Bool} {a : Nat} (ha : 17 ≤ a) : pc2_ σ x y z b a = σ a := by
  unfold pc2_
  by_cases e : mp_ σ (σ 1 7) x y z b = true
  · rw [if_pos e]
    by_cases q : σ 13 (tn_ x) < 4
    · rw [if_pos q]
      show us (us (us (us σ 14 _ _) 15 _ _) 16 _ _) 13 _ _ a = σ a
      rw [us_ne (by omega), us_ne (by omega), us_ne (by omega), us_ne (by omega)]
    · rw [if_neg q]
  · rw [if_neg e]
theorem mp_cg {t t' : sg} (h11 : t 11 = t' 11) (h12 : t 12 = t' 12) (n : Nat) (x y z : Int32) (b : Bool) : mp_ t n x y z b = mp_ t' n x y z b := by
  unfold mp_
  rw [h11, h12]
theorem mp_pc {σ : sg} (h : Rl_ σ) {x y z : Int32} {b : Bool} : mp_ (mo_ (pc2_ σ x y z b)) (σ 28 7) x y z b = mp_ σ (σ 1 7) x y z b := by
  obtain ⟨⟨⟨e5, e6, e7, e8, e9, e10, e11, e12, e13, e14, e15, e16⟩, ⟨f1, f2, f⟩, g⟩, t, b0⟩ := h
  rw [f2]
  refine mp_cg ?_ ?_ _ _ _ _ _
  · show pc2_ σ x y z b 35 = σ 11; rw [pc2_hi (by decide), e11]
  · show pc2_ σ x y z b 36 = σ 12; rw [pc2_hi (by decide), e12]
theorem gl_pc {σ : sg} (h : Rl_ σ) (x y z : Int32) (b : Bool) : Rl_ (pcM_ (pc2_ σ x y z b) x y z b) := by
  have e13 := h.1.1.2.2.2.2.2.2.2.2.1
  unfold pcM_
  rw [pc2_hi (a := 28) (by decide), pc2_hi (a := 37) (by decide), mp_pc h, e13]
  unfold pc2_
  by_cases e : mp_ σ (σ 1 7) x y z b = true
  · obtain ⟨j, k, i, h1, h2, h3, rfl, rfl, rfl⟩ := mp_t h.2.2.2.1 e
    rw [if_pos e, if_pos e]
    by_cases q : σ 13 (tn_ (nI j)) < 4
    · rw [if_pos q, if_pos q]
      refine rl_ap h q ?_ ?_ (by cases b <;> decide)
      · rw [tn_nI (by omega)]; exact h2
      · rw [tn_nI (by omega)]; exact h3
    · rw [if_neg q, if_neg q]; exact h
  · rw [if_neg e, if_neg e]; exact h
/-! the answers to solve -/
theorem cr_cg {t t' : sg} (h11 : t 11 = t' 11) (h12 : t 12 = t' 12) : cr_ t = cr_ t' := by
  funext nc a b
  unfold cr_
  rw [c0_cg h11 h12]
theorem so_cg {t t' : sg} (h11 : t 11 = t' 11) (h12 : t 12 = t' 12) : so_ t = so_ t' := by
  funext C nc
  unfold so_ f1_
  rw [br_cg h11 h12]
theorem ct2_cg {t t' : sg} (h11 : t 11 = t' 11) (h12 : t 12 = t' 12) : ct2_ t = ct2_ t' := by
  funext nc k
  unfold ct2_
  rw [cr_cg h11 h12, so_cg h11 h12]
theorem ba_cg {t t' : sg} (h11 : t 11 = t' 11) (h12 : t 12 = t' 12) : ba_ t = ba_ t' := by
  funext C f k
  unfold ba_ ou_
  rw [br_cg h11 h12, h11, h12]
theorem fb_cg {t t' : sg} (h11 : t 11 = t' 11) (h12 : t 12 = t' 12) : fb_ t = fb_ t' := by
  funext nc old k
  unfold fb_
  rw [cr_cg h11 h12, so_cg h11 h12, ba_cg h11 h12]
def sv2_ (σ : sg) : sg := if sg_ σ = true then sr_ (ua (ny_ σ) 23 (ft_ σ)) (fs_ σ) else nn_ σ
def svM_ (σ : sg) : sg := if gM_ σ = true then mr_ (my_ σ) (fsM_ σ) else mn2_ σ
theorem sv2_hi {σ : sg} {a : Nat} (ha : 24 ≤ a) : sv2_ σ a = σ a := by
  unfold sv2_
  by_cases e : sg_ σ = true
  · rw [if_pos e]
    unfold sr_ ny_
    rw [ua_ne (by omega), ua_ne (by omega), ua_ne (by omega), ua_ne (by omega), ua_ne (by omega), us_ne (by omega), ua_ne (by omega), ua_ne (by omega), ua_ne (by omega)]
  · rw [if_neg e]
    unfold nn_
    rw [ua_ne (by omega), ua_ne (by omega)]
theorem mo_sv {σ : sg} : mo_ (sv2_ σ) = mo_ σ := by
  funext a
  exact sv2_hi (by omega)
theorem gM_sv {σ : sg} (h : Rl_ σ) : gM_ (sv2_ σ) = sg_ σ := by
  obtain ⟨⟨⟨e5, e6, e7, e8, e9, e10, e11, e12, e13, e14, e15, e16⟩, ⟨f1, f2, f⟩, g⟩, t, b0⟩ := h
  unfold gM_ sg_
  rw [mo_sv, sv2_hi (by decide), f2, so_cg (t := mo_ σ) (t' := σ) e11 e12, cr_cg (t := mo_ σ) (t' := σ) e11 e12]
theorem fs_sv {σ : sg} (h : Rl_ σ) : fsM_ (sv2_ σ) = fs_ σ := by
  obtain ⟨⟨⟨e5, e6, e7, e8, e9, e10, e11, e12, e13, e14, e15, e16⟩, ⟨f1, f2, f3, f4, f⟩, g⟩, t, b0⟩ := h
  unfold fsM_ fs_
  rw [mo_sv, sv2_hi (a := 28) (by decide), sv2_hi (a := 44) (by decide), f2, f1, f4, fb_cg (t := mo_ σ) (t' := σ) e11 e12, ct2_cg (t := mo_ σ) (t' := σ) e11 e12, fin_cg (t := mo_ σ) (t' := σ) e5 e6 e7 e8 e9 e10 e11 e13 e14 e15 e16]
theorem gl_sv {σ : sg} (h : Rl_ σ) : Rl_ (svM_ (sv2_ σ)) := by
  have q0 := gM_sv h
  have q1 := fs_sv h
  have q2 : mo_ (sv2_ σ) = mo_ σ := mo_sv
  have q28 : sv2_ σ 28 = σ 28 := sv2_hi (by decide)
  have q44 : sv2_ σ 44 = σ 44 := sv2_hi (by decide)
  have q45 : sv2_ σ 45 = σ 45 := sv2_hi (by decide)
  have q35 : sv2_ σ 35 = σ 35 := sv2_hi (by decide)
  obtain ⟨⟨⟨e5, e6, e7, e8, e9, e10, e11, e12, e13, e14, e15, e16⟩, ⟨f1, f2, f3, f4, f5, f6, f7, f8⟩, g⟩, t, b1, b2, b3, b4, b5, b6, b7⟩ := h
  have qc : ct2_ (mo_ σ) = ct2_ σ := ct2_cg (t := mo_ σ) (t' := σ) e11 e12
  have qf : fb_ (mo_ σ) = fb_ σ := fb_cg (t := mo_ σ) (t' := σ) e11 e12
  have hB : B_ (fs_ σ) := fin_B σ _ _ _ _
  unfold svM_
  rw [q0, q1]
  by_cases e : sg_ σ = true
  · rw [if_pos e]
    have hm : my_ (sv2_ σ) = us (ua (ua (ua (ua (ua (sv2_ σ) 41 (rch_ (cr_ (mo_ (sv2_ σ)) (sv2_ σ 28 7)))) 42 (S5_ (mo_ (sv2_ σ)) (cr_ (mo_ (sv2_ σ)) (sv2_ σ 28 7)) (sv2_ σ 28 7))) 43 (ct2_ (mo_ (sv2_ σ)) (sv2_ σ 28 7))) 44 (fb_ (mo_ (sv2_ σ)) (sv2_ σ 28 7) (sv2_ σ 44))) 45 (fun k => if k < sv2_ σ 28 7 then sv2_ σ 35 k else sv2_ σ 45 k)) 28 17 (sv2_ σ 28 7) := rfl
    rw [hm, q2, q28, q44, q35, q45, f2, f4, qc, qf, e11]
    generalize rch_ (cr_ (mo_ σ) (σ 1 7)) = r1
    generalize S5_ (mo_ σ) (cr_ (mo_ σ) (σ 1 7)) (σ 1 7) = r2
    have hs : sv2_ σ = sr_ (ua (ny_ σ) 23 (ft_ σ)) (fs_ σ) := if_pos e
    rw [hs]
    refine ⟨⟨⟨e5, e6, e7, e8, e9, e10, e11, e12, e13, e14, e15, e16⟩, ⟨f1, f2, rfl, rfl, rfl, rfl, rfl, f8⟩, ?_⟩, t, b1, b2, Nat.le_refl _, ct2_8 e, hB.1, hB.2, b7⟩
    intro k hk
    have hk : k < σ 1 7 := hk
    show (if k < σ 1 7 then σ 11 k else σ 45 k) = σ 11 k
    rw [if_pos hk]
  · rw [if_neg e]
    have hs : sv2_ σ = nn_ σ := if_neg e
    have hm : mn2_ (sv2_ σ) = ua (ua (sv2_ σ) 41 (rch_ (cr_ (mo_ (sv2_ σ)) (sv2_ σ 28 7)))) 42 (S5_ (mo_ (sv2_ σ)) (cr_ (mo_ (sv2_ σ)) (sv2_ σ 28 7)) (sv2_ σ 28 7)) := rfl
    rw [hm]
    generalize rch_ (cr_ (mo_ (sv2_ σ)) (sv2_ σ 28 7)) = r1
    generalize S5_ (mo_ (sv2_ σ)) (cr_ (mo_ (sv2_ σ)) (sv2_ σ 28 7)) (sv2_ σ 28 7) = r2
    rw [hs]
    exact ⟨⟨⟨e5, e6, e7, e8, e9, e10, e11, e12, e13, e14, e15, e16⟩, ⟨f1, f2, f3, f4, f5, f6, f7, f8⟩, g⟩, t, b1, b2, b3, b4, b5, b6, b7⟩
theorem tw_mo {σ : sg} (h : Rl_ σ) : tw_ (mo_ σ) := by
  obtain ⟨⟨⟨e5, e6, e7, e8, e9, e10, e11, e12, e13, e14, e15, e16⟩, f, g⟩, ⟨t5, t6, t7, t8, t9, t10, t11, t12, t13, t14, t15, t16⟩, b⟩ := h
  exact ⟨fun k => by show σ 29 k < 4; rw [e5]; exact t5 k, fun k => by show σ 30 k < 16; rw [e6]; exact t6 k, fun k => by show σ 31 k < 4; rw [e7]; exact t7 k, fun k => by show σ 32 k < 16; rw [e8]; exact t8 k, fun k => by show σ 33 k < 16; rw [e9]; exact t9 k, fun k => by show σ 34 k < 2; rw [e10]; exact t10 k, fun k => by show σ 35 k < 4; rw [e11]; exact t11 k, fun k => by show σ 36 k < 4; rw [e12]; exact t12 k, fun k => by show σ 37 k ≤ 4; rw [e13]; exact t13 k, fun k => by show σ 38 k < 16; rw [e14]; exact t14 k, fun k => by show σ 39 k < 16; rw [e15]; exact t15 k, fun k => by show σ 40 k < 2; rw [e16]; exact t16 k⟩
theorem gl_sc {σ τ ρ : sg} (h : Rl_ σ) (h1 : sc_ σ τ) (h2 : scM_ τ ρ) : Rl_ ρ := by
  have k : ∀ b, b ≠ 48 → b ≠ 4 → b ≠ 24 → b ≠ 25 → b ≠ 26 → b ≠ 27 → ρ b = σ b := fun b c0 c1 c2 c3 c4 c5 => (h2 b c0).trans (h1 b c1 c2 c3 c4 c5)
  obtain ⟨⟨⟨e5, e6, e7, e8, e9, e10, e11, e12, e13, e14, e15, e16⟩, ⟨f1, f2, f3, f4, f5, f6, f7, f8⟩, g⟩, ⟨t5, t6, t7, t8, t9, t10, t11, t12, t13, t14, t15, t16⟩, b1, b2, b3, b4, b5, b6, b7⟩ := h
  unfold Rl_ rl2_ tw_ bd2_
  rw [k 0 (by decide) (by decide) (by decide) (by decide) (by decide) (by decide), k 1 (by decide) (by decide) (by decide) (by decide) (by decide) (by decide), k 2 (by decide) (by decide) (by decide) (by decide) (by decide) (by decide), k 5 (by decide) (by decide) (by decide) (by decide) (by decide) (by decide), k 6 (by decide) (by decide) (by decide) (by decide) (by decide) (by decide), k 7 (by decide) (by decide) (by decide) (by decide) (by decide) (by decide), k 8 (by decide) (by decide) (by decide) (by decide) (by decide) (by decide), k 9 (by decide) (by decide) (by decide) (by decide) (by decide) (by decide), k 10 (by decide) (by decide) (by decide) (by decide) (by decide) (by decide), k 11 (by decide) (by decide) (by decide) (by decide) (by decide) (by decide), k 12 (by decide) (by decide) (by decide) (by decide) (by decide) (by decide), k 13 (by decide) (by decide) (by decide) (by decide) (by decide) (by decide), k 14 (by decide) (by decide) (by decide) (by decide) (by decide) (by decide), k 15 (by decide) (by decide) (by decide) (by decide) (by decide) (by decide), k 16 (by decide) (by decide) (by decide) (by decide) (by decide) (by decide), k 17 (by decide) (by decide) (by decide) (by decide) (by decide) (by decide), k 18 (by decide) (by decide) (by decide) (by decide) (by decide) (by decide), k 21 (by decide) (by decide) (by decide) (by decide) (by decide) (by decide), k 22 (by decide) (by decide) (by decide) (by decide) (by decide) (by decide), k 28 (by decide) (by decide) (by decide) (by decide) (by decide) (by decide), k 29 (by decide) (by decide) (by decide) (by decide) (by decide) (by decide), k 30 (by decide) (by decide) (by decide) (by decide) (by decide) (by decide), k 31 (by decide) (by decide) (by decide) (by decide) (by decide) (by decide), k 32 (by decide) (by decide) (by decide) (by decide) (by decide) (by decide), k 33 (by decide) (by decide) (by decide) (by decide) (by decide) (by decide), k 34 (by decide) (by decide) (by decide) (by decide) (by decide) (by decide), k 35 (by decide) (by decide) (by decide) (by decide) (by decide) (by decide), k 36 (by decide) (by decide) (by decide) (by decide) (by decide) (by decide), k 37 (by decide) (by decide) (by decide) (by decide) (by decide) (by decide), k 38 (by decide) (by decide) (by decide) (by decide) (by decide) (by decide), k 39 (by decide) (by decide) (by decide) (by decide) (by decide) (by decide), k 40 (by decide) (by decide) (by decide) (by decide) (by decide) (by decide), k 43 (by decide) (by decide) (by decide) (by decide) (by decide) (by decide), k 44 (by decide) (by decide) (by decide) (by decide) (by decide) (by decide), k 45 (by decide) (by decide) (by decide) (by decide) (by decide) (by decide), k 46 (by decide) (by decide) (by decide) (by decide) (by decide) (by decide), k 47 (by decide) (by decide) (by decide) (by decide) (by decide) (by decide)]
  exact ⟨⟨⟨e5, e6, e7, e8, e9, e10, e11, e12, e13, e14, e15, e16⟩, ⟨f1, f2, f3, f4, f5, f6, f7, f8⟩, g⟩, ⟨t5, t6, t7, t8, t9, t10, t11, t12, t13, t14, t15, t16⟩, b1, b2, b3, b4, b5, b6, b7⟩
theorem om_1 {x y : Int32} (h : om_ x y = true) : tn_ x < 16 := by
  obtain ⟨j, k, h1, h2, rfl, rfl⟩ := om_t h
  rw [tn_nI (by omega)]; exact h1
theorem om_2 {x y : Int32} (h : om_ x y = true) : tn_ y < 16 := by
  obtain ⟨j, k, h1, h2, rfl, rfl⟩ := om_t h
  rw [tn_nI (by omega)]; exact h2
theorem gl_cx {σ : sg} (h : Rl_ σ) (x y : Int32) : cx_ (σ 17) (σ 18) (σ 11) (σ 2 2) x y = cx_ (σ 43) (σ 44) (σ 45) (σ 28 17) x y := by
  obtain ⟨⟨e, ⟨f1, f2, f3, f4, f5, f6, f7, f8⟩, g⟩, t, b1, b2, b3, b⟩ := h
  rw [f3, f4, f5]
  unfold cx_
  by_cases q : wi_ x (σ 2 2) = true
  · rw [g (tn_ x) (wi_tn (by omega) q)]
  · rw [Bool.eq_false_iff.mpr q]; rfl
/-! the law's script -/
def sx2_ (X : wX) (b L : Nat) (xs : Nat → Int32) (s : State) : Prop := va_X b L xs s s.heap ∧ b < s.heap.size ∧ ¬ aw_ X b ∧ L ≤ 2560
section CL
variable {p : Program} {l : Launch} {e : Env} {R : Room} {s : State} {m : MethodId} {args : Array Value} {below : List Frame} {meth : Method} {c : Code} {Q : State → Prop}
variable {X : wX} {nL : Nat} {L : List (Nat × Value)} {σ : sg} {pc : Nat} {st : List Value} {cc : ByteArray} {own : String}
theorem qv_sld (F : fx_ p s m args c cc nL own X) {b N : Nat} {xs : Nat → Int32} (hs : sx2_ X b N xs s) {i : Nat} (hi : i < N) (hd : decode cc pc = .ok (.iaload, 1)) (k : vv_ p l e R s m args below meth c Q X nL L σ (pc + 1) (.int (xs i) :: st)) : vv_ p l e R s m args below meth c Q X nL L σ pc (.int (nI i) :: .ref b :: st) := by
  intro H locs ls h hP hS
  obtain ⟨h1, h2, h3, h4⟩ := hs
  have e : (nI i).toNatClampNeg = i := nI_clamp (by omega)
  refine va_sld (fx_x F) (fx_b F) h1 h2 h3 hS (vp_in_nI hi (by omega)) hd ?_
  rw [e]
  exact k H locs ls h hP hS
theorem qv_slen (F : fx_ p s m args c cc nL own X) {b N : Nat} {xs : Nat → Int32} (hs : sx2_ X b N xs s) (hd : decode cc pc = .ok (.arraylength, 1)) (k : vv_ p l e R s m args below meth c Q X nL L σ (pc + 1) (.int (nI N) :: st)) : vv_ p l e R s m args below meth c Q X nL L σ pc (.ref b :: st) :=
  fun H locs ls h hP hS => va_slen (fx_x F) (fx_b F) hs.1 hs.2.1 hs.2.2.1 hS hd (k H locs ls h hP hS)
theorem qv_icmpeqE (F : fx_ p s m args c cc nL own X) {x y : Int32} {off : Int} {tgt : Nat} (hd : decode cc pc = .ok (.if_icmp .eq off, 3)) (ht : (pc : Int) + off = (tgt : Int)) (he : x = y) (k : vv_ p l e R s m args below meth c Q X nL L σ tgt st) : vv_ p l e R s m args below meth c Q X nL L σ pc (.int y :: .int x :: st) :=
  fun H locs ls h hP hS => lv_icmp_eq (fx_x F) (fx_b F) hd ht (fun _ => k H locs ls h hP hS) (fun q => absurd he q)
end CL
theorem and31 (x : Int32) : ∃ a : Nat, a < 32 ∧ x &&& nI 31 = nI a := by
  refine ⟨(x &&& nI 31).toBitVec.toNat, ?_, ?_⟩
  · have h : (x &&& nI 31).toBitVec = x.toBitVec &&& 31#32 := by
      rw [Int32.toBitVec_and]; rfl
    rw [h, BitVec.toNat_and]
    exact Nat.lt_of_le_of_lt Nat.and_le_right (by decide)
  · apply Int32.toBitVec_inj.mp
    show _ = (Int32.ofNat _).toBitVec
    rw [Int32.toBitVec_ofNat']
    exact (BitVec.ofNat_toNat _ _).trans (BitVec.setWidth_eq _) |>.symm
theorem lk_few : ∀ L, L < 5 → ∀ i, i < 5 → nI L - nI 5 < nI i := by decide
theorem lk_more {L i : Nat} (hL : L ≤ 2560) (hi : i ≤ L) (h : ¬ nI L - nI 5 < nI i) : i + 5 ≤ L := by
  by_cases q : L < 5
  · exact absurd (lk_few L q i (by omega)) h
  · rw [pk_sub (by omega)] at h
    have h2 : ¬ L - 5 < i := fun z => h ((nI_ltI (by omega) (by omega)).mpr z)
    omega
