/-! the class's face: told, asked -/
set_option maxRecDepth 100000 in
set_option maxHeartbeats 4000000 in
theorem c_P_kind (l : Launch) (X : wX) (σ : sg) (x y : Int32) : mt_ l X y_P_kind w_P_kind 1 [.ref (adr X 0), .int x, .int y] σ (ei_ (nI (wi_ x 8 && wi_ y 4).toNat) (if (wi_ x 8 && wi_ y 4) = true then us σ 5 (tn_ x) (tn_ y) else σ)) := by
  refine mt_of (own := R_P) rfl pl_P (Nat.le_of_ble_eq_true rfl) ?_
  intro zp ze zs zm za zb zt zc F hr hlk
  refine qv_sub (L' := [(0, _), (1, _), (2, _)]) [0, 1, 2] rfl ?_
  refine qv_iload_n F d_P_kind_0 1 rfl ?_
  refine qv_bipush F (nI 8) d_P_kind_1 bic_8 ?_
  refine i_P_41i F (c_P_isWithin l X σ x 8 (by decide)) (by decide) (Nat.le_of_ble_eq_true rfl) d_P_kind_3 ?_
  refine qv_ifeqB F d_P_kind_6 rfl (fun hb => ?_) (fun hb => ?_)
  ·
    refine qv_iconst F (nI 0) d_P_kind_17 ic_0 ?_
    exact qv_zret F hr hlk (by first | exact Or.inl rfl | exact Or.inr rfl | exact bz_01 _) d_P_kind_18 (ei_of (by rw [hb]; rfl) (by rw [hb]; rfl))
  ·
    have hx := hb
    obtain ⟨j, hj, rfl⟩ := wi_t (by decide) hb
    refine qv_iload_n F d_P_kind_9 2 rfl ?_
    refine qv_iconst F (nI 4) d_P_kind_10 ic_4 ?_
    refine i_P_41i F (c_P_isWithin l X σ y 4 (by decide)) (by decide) (Nat.le_of_ble_eq_true rfl) d_P_kind_11 ?_
    refine qv_ifneB F d_P_kind_14 rfl (fun hb => ?_) (fun hb => ?_)
    ·
      have hy := hb
      obtain ⟨k, hk, rfl⟩ := wi_t (by decide) hb
      refine qv_aload_n F d_P_kind_19 0 rfl ?_
      refine g_P_12 F d_P_kind_20 ?_
      refine g_P_45 F d_P_kind_23 ?_
      refine qv_iload_n F d_P_kind_26 1 rfl ?_
      refine qv_iload_n F d_P_kind_27 2 rfl ?_
      refine sv_5 F (by omega) d_P_kind_28 ?_
      refine qv_iconst F (nI 1) d_P_kind_29 ic_1 ?_
      exact qv_zret F hr hlk (by first | exact Or.inl rfl | exact Or.inr rfl | exact bz_01 _) d_P_kind_30 (ei_of (by rw [hx, hy]; rfl) (by rw [hx, hy, tn_nI (by omega), tn_nI (by omega)]; rfl))
    ·
      refine qv_iconst F (nI 0) d_P_kind_17 ic_0 ?_
      exact qv_zret F hr hlk (by first | exact Or.inl rfl | exact Or.inr rfl | exact bz_01 _) d_P_kind_18 (ei_of (by rw [hx, hb]; rfl) (by rw [hx, hb]; rfl))
set_option maxRecDepth 100000 in
set_option maxHeartbeats 4000000 in
theorem c_P_accept (l : Launch) (X : wX) (σ : sg) (x y : Int32) : mt_ l X y_P_accept w_P_accept 1 [.ref (adr X 0), .int x, .int y] σ (ei_ (nI (wi_ x 16 && wi_ y 16).toNat) (if (wi_ x 16 && wi_ y 16) = true then us σ 6 (tn_ x) (tn_ y) else σ)) := by
  refine mt_of (own := R_P) rfl pl_P (Nat.le_of_ble_eq_true rfl) ?_
  intro zp ze zs zm za zb zt zc F hr hlk
  refine qv_sub (L' := [(0, _), (1, _), (2, _)]) [0, 1, 2] rfl ?_
  refine qv_iload_n F d_P_accept_0 1 rfl ?_
  refine qv_bipush F (nI 16) d_P_accept_1 bic_16 ?_
  refine i_P_41i F (c_P_isWithin l X σ x 16 (by decide)) (by decide) (Nat.le_of_ble_eq_true rfl) d_P_accept_3 ?_
  refine qv_ifeqB F d_P_accept_6 rfl (fun hb => ?_) (fun hb => ?_)
  ·
    refine qv_iconst F (nI 0) d_P_accept_18 ic_0 ?_
    exact qv_zret F hr hlk (by first | exact Or.inl rfl | exact Or.inr rfl | exact bz_01 _) d_P_accept_19 (ei_of (by rw [hb]; rfl) (by rw [hb]; rfl))
  ·
    have hx := hb
    obtain ⟨j, hj, rfl⟩ := wi_t (by decide) hb
    refine qv_iload_n F d_P_accept_9 2 rfl ?_
    refine qv_bipush F (nI 16) d_P_accept_10 bic_16 ?_
    refine i_P_41i F (c_P_isWithin l X σ y 16 (by decide)) (by decide) (Nat.le_of_ble_eq_true rfl) d_P_accept_12 ?_
    refine qv_ifneB F d_P_accept_15 rfl (fun hb => ?_) (fun hb => ?_)
    ·
      have hy := hb
      obtain ⟨k, hk, rfl⟩ := wi_t (by decide) hb
      refine qv_aload_n F d_P_accept_20 0 rfl ?_
      refine g_P_12 F d_P_accept_21 ?_
      refine g_P_49 F d_P_accept_24 ?_
      refine qv_iload_n F d_P_accept_27 1 rfl ?_
      refine qv_iload_n F d_P_accept_28 2 rfl ?_
      refine sv_6 F (by omega) d_P_accept_29 ?_
      refine qv_iconst F (nI 1) d_P_accept_30 ic_1 ?_
      exact qv_zret F hr hlk (by first | exact Or.inl rfl | exact Or.inr rfl | exact bz_01 _) d_P_accept_31 (ei_of (by rw [hx, hy]; rfl) (by rw [hx, hy, tn_nI (by omega), tn_nI (by omega)]; rfl))
    ·
      refine qv_iconst F (nI 0) d_P_accept_18 ic_0 ?_
      exact qv_zret F hr hlk (by first | exact Or.inl rfl | exact Or.inr rfl | exact bz_01 _) d_P_accept_19 (ei_of (by rw [hx, hb]; rfl) (by rw [hx, hb]; rfl))
/-- the answer of a new statement, or of a refused one -/
def an_ (b : Bool) (n : Nat) : Int32 := if b = true then (if n < 40 then nI (n + 1) else -2) else -1
def sn2_ (b : Bool) (σ : sg) (a v w f : Nat) : sg := if b = true then (if σ 1 2 < 40 then as_ σ a v w f else σ) else σ
set_option maxRecDepth 100000 in
set_option maxHeartbeats 4000000 in
theorem c_P_make (l : Launch) (X : wX) (σ : sg) (x y : Int32) (hs : σ 1 2 ≤ 40) : mt_ l X y_P_make w_P_make 1 [.ref (adr X 0), .int x, .int y] σ (ei_ (an_ (wi_ x 16 && wi_ y 8) (σ 1 2)) (sn2_ (wi_ x 16 && wi_ y 8) σ 0 (tn_ x) (tn_ y) 0)) := by
  refine mt_of (own := R_P) rfl pl_P (Nat.le_of_ble_eq_true rfl) ?_
  intro zp ze zs zm za zb zt zc F hr hlk
  refine qv_sub (L' := [(0, _), (1, _), (2, _)]) [0, 1, 2] rfl ?_
  refine qv_iload_n F d_P_make_0 1 rfl ?_
  refine qv_bipush F (nI 16) d_P_make_1 bic_16 ?_
  refine i_P_41i F (c_P_isWithin l X σ x 16 (by decide)) (by decide) (Nat.le_of_ble_eq_true rfl) d_P_make_3 ?_
  refine qv_ifeqB F d_P_make_6 rfl (fun hb => ?_) (fun hb => ?_)
  ·
    refine qv_iconst F (-1) d_P_make_18 ic_m1 ?_
    exact qv_iret F hr hlk d_P_make_19 (ei_of (by rw [hb]; rfl) (by rw [hb]; rfl))
  ·
    have hx := hb
    obtain ⟨j, hj, rfl⟩ := wi_t (by decide) hb
    refine qv_iload_n F d_P_make_9 2 rfl ?_
    refine qv_bipush F (nI 8) d_P_make_10 bic_8 ?_
    refine i_P_41i F (c_P_isWithin l X σ y 8 (by decide)) (by decide) (Nat.le_of_ble_eq_true rfl) d_P_make_12 ?_
    refine qv_ifneB F d_P_make_15 rfl (fun hb => ?_) (fun hb => ?_)
    ·
      have hy := hb
      obtain ⟨k, hk, rfl⟩ := wi_t (by decide) hb
      refine qv_aload_n F d_P_make_20 0 rfl ?_
      refine g_P_12 F d_P_make_21 ?_
      refine qv_iconst F (nI 0) d_P_make_24 ic_0 ?_
      refine qv_iload_n F d_P_make_25 1 rfl ?_
      refine qv_iload_n F d_P_make_26 2 rfl ?_
      refine qv_iconst F (nI 0) d_P_make_27 ic_0 ?_
      refine i_P_52i F (c_G_addStatement l X σ 0 j k 0 hs) (by decide) (Nat.le_of_ble_eq_true rfl) d_P_make_28 ?_
      exact qv_iret F hr hlk d_P_make_31 (ei_of (by rw [hx, hy]; rfl) (by rw [hx, hy, tn_nI (by omega), tn_nI (by omega)]; rfl))
    ·
      refine qv_iconst F (-1) d_P_make_18 ic_m1 ?_
      exact qv_iret F hr hlk d_P_make_19 (ei_of (by rw [hx, hb]; rfl) (by rw [hx, hb]; rfl))
def om_ (x y : Int32) : Bool := wi_ y 16 && (wi_ x 16 && decide (tn_ x / 4 = tn_ y / 4))
theorem om_t {x y : Int32} (h : om_ x y = true) : ∃ j k : Nat, j < 16 ∧ k < 16 ∧ x = nI j ∧ y = nI k := by
  unfold om_ at h
  rw [Bool.and_eq_true, Bool.and_eq_true] at h
  obtain ⟨k, hk, e1⟩ := wi_t (by decide) h.1
  obtain ⟨j, hj, e2⟩ := wi_t (by decide) h.2.1
  exact ⟨j, k, hj, hk, e2, e1⟩
set_option maxRecDepth 100000 in
set_option maxHeartbeats 4000000 in
theorem c_P_copy (l : Launch) (X : wX) (σ : sg) (x y : Int32) (hs : σ 1 2 ≤ 40) : mt_ l X y_P_copy w_P_copy 3 [.ref (adr X 0), .int x, .int y] σ (ei_ (an_ (om_ x y) (σ 1 2)) (sn2_ (om_ x y) σ 1 (tn_ x) (tn_ y) 0)) := by
  refine mt_of (own := R_P) rfl pl_P (Nat.le_of_ble_eq_true rfl) ?_
  intro zp ze zs zm za zb zt zc F hr hlk
  refine qv_sub (L' := [(0, _), (1, _), (2, _)]) [0, 1, 2] rfl ?_
  refine qv_iload_n F d_P_copy_0 1 rfl ?_
  refine qv_iload_n F d_P_copy_1 2 rfl ?_
  refine i_P_56i F (c_P_areOfOneMethod l X σ x y) (by decide) (Nat.le_of_ble_eq_true rfl) d_P_copy_2 ?_
  refine qv_ifneB F d_P_copy_5 rfl (fun hb => ?_) (fun hb => ?_)
  ·
    have hx : om_ x y = true := hb
    obtain ⟨j, k, hj, hk, rfl, rfl⟩ := om_t hx
    refine qv_aload_n F d_P_copy_10 0 rfl ?_
    refine g_P_12 F d_P_copy_11 ?_
    refine qv_iconst F (nI 1) d_P_copy_14 ic_1 ?_
    refine qv_iload_n F d_P_copy_15 1 rfl ?_
    refine qv_iload_n F d_P_copy_16 2 rfl ?_
    refine qv_iconst F (nI 0) d_P_copy_17 ic_0 ?_
    refine i_P_52i F (c_G_addStatement l X σ 1 j k 0 hs) (by decide) (Nat.le_of_ble_eq_true rfl) d_P_copy_18 ?_
    exact qv_iret F hr hlk d_P_copy_21 (ei_of (by rw [hx]; rfl) (by rw [hx, tn_nI (by omega), tn_nI (by omega)]; rfl))
  ·
    have hx : om_ x y = false := hb
    refine qv_iconst F (-1) d_P_copy_8 ic_m1 ?_
    exact qv_iret F hr hlk d_P_copy_9 (ei_of (by rw [hx]; rfl) (by rw [hx]; rfl))
set_option maxRecDepth 100000 in
set_option maxHeartbeats 4000000 in
theorem c_P_store (l : Launch) (X : wX) (σ : sg) (x f y : Int32) (hs : σ 1 2 ≤ 40) : mt_ l X y_P_store w_P_store 3 [.ref (adr X 0), .int x, .int f, .int y] σ (ei_ (an_ (om_ x y && wi_ f 2) (σ 1 2)) (sn2_ (om_ x y && wi_ f 2) σ 2 (tn_ x) (tn_ y) (tn_ f))) := by
  refine mt_of (own := R_P) rfl pl_P (Nat.le_of_ble_eq_true rfl) ?_
  intro zp ze zs zm za zb zt zc F hr hlk
  refine qv_sub (L' := [(0, _), (1, _), (2, _), (3, _)]) [0, 1, 2, 3] rfl ?_
  refine qv_iload_n F d_P_store_0 1 rfl ?_
  refine qv_iload_n F d_P_store_1 3 rfl ?_
  refine i_P_56i F (c_P_areOfOneMethod l X σ x y) (by decide) (Nat.le_of_ble_eq_true rfl) d_P_store_2 ?_
  refine qv_ifeqB F d_P_store_5 rfl (fun hb => ?_) (fun hb => ?_)
  ·
    have hx : om_ x y = false := hb
    refine qv_iconst F (-1) d_P_store_16 ic_m1 ?_
    exact qv_iret F hr hlk d_P_store_17 (ei_of (by rw [hx]; rfl) (by rw [hx]; rfl))
  ·
    have hx : om_ x y = true := hb
    obtain ⟨j, k, hj, hk, rfl, rfl⟩ := om_t hx
    refine qv_iload_n F d_P_store_8 2 rfl ?_
    refine qv_iconst F (nI 2) d_P_store_9 ic_2 ?_
    refine i_P_41i F (c_P_isWithin l X σ f 2 (by decide)) (by decide) (Nat.le_of_ble_eq_true rfl) d_P_store_10 ?_
    refine qv_ifneB F d_P_store_13 rfl (fun hb => ?_) (fun hb => ?_)
    ·
      have hf := hb
      obtain ⟨i, hi, rfl⟩ := wi_t (by decide) hb
      refine qv_aload_n F d_P_store_18 0 rfl ?_
      refine g_P_12 F d_P_store_19 ?_
      refine qv_iconst F (nI 2) d_P_store_22 ic_2 ?_
      refine qv_iload_n F d_P_store_23 1 rfl ?_
      refine qv_iload_n F d_P_store_24 3 rfl ?_
      refine qv_iload_n F d_P_store_25 2 rfl ?_
      refine i_P_52i F (c_G_addStatement l X σ 2 j k i hs) (by decide) (Nat.le_of_ble_eq_true rfl) d_P_store_26 ?_
      exact qv_iret F hr hlk d_P_store_29 (ei_of (by rw [hx, hf]; rfl) (by rw [hx, hf, tn_nI (by omega), tn_nI (by omega), tn_nI (by omega)]; rfl))
    ·
      refine qv_iconst F (-1) d_P_store_16 ic_m1 ?_
      exact qv_iret F hr hlk d_P_store_17 (ei_of (by rw [hx, hb]; rfl) (by rw [hx, hb]; rfl))
set_option maxRecDepth 100000 in
set_option maxHeartbeats 4000000 in
theorem c_P_load (l : Launch) (X : wX) (σ : sg) (x y f : Int32) (hs : σ 1 2 ≤ 40) : mt_ l X y_P_load w_P_load 3 [.ref (adr X 0), .int x, .int y, .int f] σ (ei_ (an_ (om_ x y && wi_ f 2) (σ 1 2)) (sn2_ (om_ x y && wi_ f 2) σ 3 (tn_ x) (tn_ y) (tn_ f))) := by
  refine mt_of (own := R_P) rfl pl_P (Nat.le_of_ble_eq_true rfl) ?_
  intro zp ze zs zm za zb zt zc F hr hlk
  refine qv_sub (L' := [(0, _), (1, _), (2, _), (3, _)]) [0, 1, 2, 3] rfl ?_
  refine qv_iload_n F d_P_load_0 1 rfl ?_
  refine qv_iload_n F d_P_load_1 2 rfl ?_
  refine i_P_56i F (c_P_areOfOneMethod l X σ x y) (by decide) (Nat.le_of_ble_eq_true rfl) d_P_load_2 ?_
  refine qv_ifeqB F d_P_load_5 rfl (fun hb => ?_) (fun hb => ?_)
  ·
    have hx : om_ x y = false := hb
    refine qv_iconst F (-1) d_P_load_16 ic_m1 ?_
    exact qv_iret F hr hlk d_P_load_17 (ei_of (by rw [hx]; rfl) (by rw [hx]; rfl))
  ·
    have hx : om_ x y = true := hb
    obtain ⟨j, k, hj, hk, rfl, rfl⟩ := om_t hx
    refine qv_iload_n F d_P_load_8 3 rfl ?_
    refine qv_iconst F (nI 2) d_P_load_9 ic_2 ?_
    refine i_P_41i F (c_P_isWithin l X σ f 2 (by decide)) (by decide) (Nat.le_of_ble_eq_true rfl) d_P_load_10 ?_
    refine qv_ifneB F d_P_load_13 rfl (fun hb => ?_) (fun hb => ?_)
    ·
      have hf := hb
      obtain ⟨i, hi, rfl⟩ := wi_t (by decide) hb
      refine qv_aload_n F d_P_load_18 0 rfl ?_
      refine g_P_12 F d_P_load_19 ?_
      refine qv_iconst F (nI 3) d_P_load_22 ic_3 ?_
      refine qv_iload_n F d_P_load_23 1 rfl ?_
      refine qv_iload_n F d_P_load_24 2 rfl ?_
      refine qv_iload_n F d_P_load_25 3 rfl ?_
      refine i_P_52i F (c_G_addStatement l X σ 3 j k i hs) (by decide) (Nat.le_of_ble_eq_true rfl) d_P_load_26 ?_
      exact qv_iret F hr hlk d_P_load_29 (ei_of (by rw [hx, hf]; rfl) (by rw [hx, hf, tn_nI (by omega), tn_nI (by omega), tn_nI (by omega)]; rfl))
    ·
      refine qv_iconst F (-1) d_P_load_16 ic_m1 ?_
      exact qv_iret F hr hlk d_P_load_17 (ei_of (by rw [hx, hb]; rfl) (by rw [hx, hb]; rfl))
def cn_ (b : Bool) (n : Nat) : Int32 := if b = true then (if n < 8 then nI n else -2) else -1
def cs2_ (b : Bool) (σ : sg) (v w : Nat) : sg := if b = true then (if σ 1 7 < 8 then ac_ σ v w else σ) else σ
set_option maxRecDepth 100000 in
set_option maxHeartbeats 4000000 in
theorem c_P_call (l : Launch) (X : wX) (σ : sg) (x y : Int32) (hs : σ 1 7 ≤ 8) : mt_ l X y_P_call w_P_call 1 [.ref (adr X 0), .int x, .int y] σ (ei_ (cn_ (wi_ x 4 && wi_ y 4) (σ 1 7)) (cs2_ (wi_ x 4 && wi_ y 4) σ (tn_ x) (tn_ y))) := by
  refine mt_of (own := R_P) rfl pl_P (Nat.le_of_ble_eq_true rfl) ?_
  intro zp ze zs zm za zb zt zc F hr hlk
  refine qv_sub (L' := [(0, _), (1, _), (2, _)]) [0, 1, 2] rfl ?_
  refine qv_iload_n F d_P_call_0 1 rfl ?_
  refine qv_iconst F (nI 4) d_P_call_1 ic_4 ?_
  refine i_P_41i F (c_P_isWithin l X σ x 4 (by decide)) (by decide) (Nat.le_of_ble_eq_true rfl) d_P_call_2 ?_
  refine qv_ifeqB F d_P_call_5 rfl (fun hb => ?_) (fun hb => ?_)
  ·
    refine qv_iconst F (-1) d_P_call_16 ic_m1 ?_
    exact qv_iret F hr hlk d_P_call_17 (ei_of (by rw [hb]; rfl) (by rw [hb]; rfl))
  ·
    have hx := hb
    obtain ⟨j, hj, rfl⟩ := wi_t (by decide) hb
    refine qv_iload_n F d_P_call_8 2 rfl ?_
    refine qv_iconst F (nI 4) d_P_call_9 ic_4 ?_
    refine i_P_41i F (c_P_isWithin l X σ y 4 (by decide)) (by decide) (Nat.le_of_ble_eq_true rfl) d_P_call_10 ?_
    refine qv_ifneB F d_P_call_13 rfl (fun hb => ?_) (fun hb => ?_)
    ·
      have hy := hb
      obtain ⟨k, hk, rfl⟩ := wi_t (by decide) hb
      refine qv_aload_n F d_P_call_18 0 rfl ?_
      refine g_P_12 F d_P_call_19 ?_
      refine qv_iload_n F d_P_call_22 1 rfl ?_
      refine qv_iload_n F d_P_call_23 2 rfl ?_
      refine i_P_59i F (c_G_addCall l X σ j k hs) (by decide) (Nat.le_of_ble_eq_true rfl) d_P_call_24 ?_
      exact qv_iret F hr hlk d_P_call_27 (ei_of (by rw [hx, hy]; rfl) (by rw [hx, hy, tn_nI (by omega), tn_nI (by omega)]; rfl))
    ·
      refine qv_iconst F (-1) d_P_call_16 ic_m1 ?_
      exact qv_iret F hr hlk d_P_call_17 (ei_of (by rw [hx, hb]; rfl) (by rw [hx, hb]; rfl))
set_option maxRecDepth 100000 in
set_option maxHeartbeats 4000000 in
theorem c_P_order (l : Launch) (X : wX) (σ : sg) (x : Int32) : mt_ l X y_P_order w_P_order 1 [.ref (adr X 0), .int x] σ (ei_ (nI (wi_ x 6).toNat) (if wi_ x 6 = true then us σ 0 4 (tn_ x) else σ)) := by
  refine mt_of (own := R_P) rfl pl_P (Nat.le_of_ble_eq_true rfl) ?_
  intro zp ze zs zm za zb zt zc F hr hlk
  refine qv_sub (L' := [(0, _), (1, _)]) [0, 1] rfl ?_
  refine qv_iload_n F d_P_order_0 1 rfl ?_
  refine qv_bipush F (nI 6) d_P_order_1 bic_6 ?_
  refine i_P_41i F (c_P_isWithin l X σ x 6 (by decide)) (by decide) (Nat.le_of_ble_eq_true rfl) d_P_order_3 ?_
  refine qv_ifneB F d_P_order_6 rfl (fun hb => ?_) (fun hb => ?_)
  ·
    have hx := hb
    obtain ⟨j, hj, rfl⟩ := wi_t (by decide) hb
    refine qv_aload_n F d_P_order_11 0 rfl ?_
    refine qv_iload_n F d_P_order_12 1 rfl ?_
    refine p_P_37 F d_P_order_13 ?_
    refine qv_iconst F (nI 1) d_P_order_16 ic_1 ?_
    exact qv_zret F hr hlk (by first | exact Or.inl rfl | exact Or.inr rfl | exact bz_01 _) d_P_order_17 (ei_of (by rw [hx]; rfl) (by rw [hx, tn_nI (by omega)]; rfl))
  ·
    refine qv_iconst F (nI 0) d_P_order_9 ic_0 ?_
    exact qv_zret F hr hlk (by first | exact Or.inl rfl | exact Or.inr rfl | exact bz_01 _) d_P_order_10 (ei_of (by rw [hb]; rfl) (by rw [hb]; rfl))
set_option maxRecDepth 100000 in
set_option maxHeartbeats 4000000 in
theorem c_P_contexts (l : Launch) (X : wX) (σ : sg) (x : Int32) : mt_ l X y_P_contexts w_P_contexts 1 [.ref (adr X 0), .int x] σ (ei_ (if wi_ x 4 = true then nI (σ 17 (tn_ x)) else -1) σ) := by
  refine mt_of (own := R_P) rfl pl_P (Nat.le_of_ble_eq_true rfl) ?_
  intro zp ze zs zm za zb zt zc F hr hlk
  refine qv_sub (L' := [(0, _), (1, _)]) [0, 1] rfl ?_
  refine qv_iload_n F d_P_contexts_0 1 rfl ?_
  refine qv_iconst F (nI 4) d_P_contexts_1 ic_4 ?_
  refine i_P_41i F (c_P_isWithin l X σ x 4 (by decide)) (by decide) (Nat.le_of_ble_eq_true rfl) d_P_contexts_2 ?_
  refine qv_ifneB F d_P_contexts_5 rfl (fun hb => ?_) (fun hb => ?_)
  ·
    have hx := hb
    obtain ⟨j, hj, rfl⟩ := wi_t (by decide) hb
    refine qv_aload_n F d_P_contexts_10 0 rfl ?_
    refine g_P_19 F d_P_contexts_11 ?_
    refine g_P_91 F d_P_contexts_14 ?_
    refine qv_iload_n F d_P_contexts_17 1 rfl ?_
    refine ld_17 F (by omega) d_P_contexts_18 ?_
    exact qv_iret F hr hlk d_P_contexts_19 (ei_of (by rw [hx, tn_nI (by omega)]; rfl) rfl)
  ·
    refine qv_iconst F (-1) d_P_contexts_8 ic_m1 ?_
    exact qv_iret F hr hlk d_P_contexts_9 (ei_of (by rw [hb]; rfl) rfl)
set_option maxRecDepth 100000 in
set_option maxHeartbeats 4000000 in
theorem c_P_holds (l : Launch) (X : wX) (σ : sg) (x y : Int32) : mt_ l X y_P_holds w_P_holds 1 [.ref (adr X 0), .int x, .int y] σ (ei_ (if (wi_ x 8 && wi_ y 2) = true then nI (σ 22 (tn_ x * 2 + tn_ y)) else nI 0) σ) := by
  refine mt_of (own := R_P) rfl pl_P (Nat.le_of_ble_eq_true rfl) ?_
  intro zp ze zs zm za zb zt zc F hr hlk
  refine qv_sub (L' := [(0, _), (1, _), (2, _)]) [0, 1, 2] rfl ?_
  refine qv_iload_n F d_P_holds_0 1 rfl ?_
  refine qv_bipush F (nI 8) d_P_holds_1 bic_8 ?_
  refine i_P_41i F (c_P_isWithin l X σ x 8 (by decide)) (by decide) (Nat.le_of_ble_eq_true rfl) d_P_holds_3 ?_
  refine qv_ifeqB F d_P_holds_6 rfl (fun hb => ?_) (fun hb => ?_)
  ·
    refine qv_iconst F (nI 0) d_P_holds_17 ic_0 ?_
    exact qv_iret F hr hlk d_P_holds_18 (ei_of (by rw [hb]; rfl) rfl)
  ·
    have hx := hb
    obtain ⟨j, hj, rfl⟩ := wi_t (by decide) hb
    refine qv_iload_n F d_P_holds_9 2 rfl ?_
    refine qv_iconst F (nI 2) d_P_holds_10 ic_2 ?_
    refine i_P_41i F (c_P_isWithin l X σ y 2 (by decide)) (by decide) (Nat.le_of_ble_eq_true rfl) d_P_holds_11 ?_
    refine qv_ifneB F d_P_holds_14 rfl (fun hb => ?_) (fun hb => ?_)
    ·
      have hy := hb
      obtain ⟨k, hk, rfl⟩ := wi_t (by decide) hb
      refine qv_aload_n F d_P_holds_19 0 rfl ?_
      refine g_P_26 F d_P_holds_20 ?_
      refine qv_iload_n F d_P_holds_23 1 rfl ?_
      refine qv_iload_n F d_P_holds_24 2 rfl ?_
      refine i_P_88i F (c_T_heldIn l X σ j k (by omega)) (by decide) (Nat.le_of_ble_eq_true rfl) d_P_holds_25 ?_
      exact qv_iret F hr hlk d_P_holds_28 (ei_of (by rw [hx, hy, tn_nI (by omega), tn_nI (by omega)]; rfl) rfl)
    ·
      refine qv_iconst F (nI 0) d_P_holds_17 ic_0 ?_
      exact qv_iret F hr hlk d_P_holds_18 (ei_of (by rw [hx, hb]; rfl) rfl)
def iv_ (mn : Nat → Nat) (x y : Int32) : Bool := wi_ y 16 && wi_ x (mn (tn_ y / 4))
theorem iv_t {mn : Nat → Nat} (hm : ∀ k, mn k ≤ 8) {x y : Int32} (h : iv_ mn x y = true) : ∃ j k : Nat, j < 8 ∧ k < 16 ∧ x = nI j ∧ y = nI k := by
  unfold iv_ at h
  rw [Bool.and_eq_true] at h
  obtain ⟨k, hk, e1⟩ := wi_t (by decide) h.1
  have q := hm (tn_ y / 4)
  obtain ⟨j, hj, e2⟩ := wi_t (by omega) h.2
  exact ⟨j, k, by omega, hk, e2, e1⟩
set_option maxRecDepth 100000 in
set_option maxHeartbeats 4000000 in
theorem c_P_isVariableIn (l : Launch) (X : wX) (σ : sg) (x y : Int32) (hm : ∀ k, σ 17 k ≤ 8) : mt_ l X y_P_isVariableIn w_P_isVariableIn 1 [.ref (adr X 0), .int x, .int y] σ (ei_ (nI (iv_ (σ 17) x y).toNat) σ) := by
  refine mt_of (own := R_P) rfl pl_P (Nat.le_of_ble_eq_true rfl) ?_
  intro zp ze zs zm za zb zt zc F hr hlk
  refine qv_sub (L' := [(0, _), (1, _), (2, _)]) [0, 1, 2] rfl ?_
  refine qv_iload_n F d_P_isVariableIn_0 2 rfl ?_
  refine qv_bipush F (nI 16) d_P_isVariableIn_1 bic_16 ?_
  refine i_P_41i F (c_P_isWithin l X σ y 16 (by decide)) (by decide) (Nat.le_of_ble_eq_true rfl) d_P_isVariableIn_3 ?_
  refine qv_ifeqB F d_P_isVariableIn_6 rfl (fun hb => ?_) (fun hb => ?_)
  ·
    refine qv_iconst F (nI 0) d_P_isVariableIn_32 ic_0 ?_
    exact qv_zret F hr hlk (by first | exact Or.inl rfl | exact Or.inr rfl | exact bz_01 _) d_P_isVariableIn_33 (ei_of (by unfold iv_; rw [hb]; rfl) rfl)
  ·
    have hy := hb
    obtain ⟨k, hk, rfl⟩ := wi_t (by decide) hb
    have q := hm (k / 4)
    refine qv_iload_n F d_P_isVariableIn_9 1 rfl ?_
    refine qv_aload_n F d_P_isVariableIn_10 0 rfl ?_
    refine g_P_19 F d_P_isVariableIn_11 ?_
    refine g_P_91 F d_P_isVariableIn_14 ?_
    refine qv_iload_n F d_P_isVariableIn_17 2 rfl ?_
    refine i_P_123i F (c_P_methodOf l X σ k (by omega)) (by decide) (Nat.le_of_ble_eq_true rfl) d_P_isVariableIn_18 ?_
    refine ld_17 F (by omega) d_P_isVariableIn_21 ?_
    refine i_P_41i F (c_P_isWithin l X σ x (σ 17 (k / 4)) (by omega)) (by decide) (Nat.le_of_ble_eq_true rfl) d_P_isVariableIn_22 ?_
    refine qv_ifeqB F d_P_isVariableIn_25 rfl (fun hb => ?_) (fun hb => ?_)
    ·
      refine qv_iconst F (nI 0) d_P_isVariableIn_32 ic_0 ?_
      exact qv_zret F hr hlk (by first | exact Or.inl rfl | exact Or.inr rfl | exact bz_01 _) d_P_isVariableIn_33 (ei_of (by unfold iv_; rw [hy, tn_nI (by omega), hb]; rfl) rfl)
    ·
      refine qv_iconst F (nI 1) d_P_isVariableIn_28 ic_1 ?_
      refine qv_goto F d_P_isVariableIn_29 rfl ?_
      exact qv_zret F hr hlk (by first | exact Or.inl rfl | exact Or.inr rfl | exact bz_01 _) d_P_isVariableIn_33 (ei_of (by unfold iv_; rw [hy, tn_nI (by omega), hb]; rfl) rfl)
set_option maxRecDepth 100000 in
set_option maxHeartbeats 4000000 in
theorem c_P_points (l : Launch) (X : wX) (σ : sg) (x y : Int32) (hm : ∀ k, σ 17 k ≤ 8) : mt_ l X y_P_points w_P_points 2 [.ref (adr X 0), .int x, .int y] σ (ei_ (if iv_ (σ 17) x y = true then nI (σ 21 (tn_ x * 16 + tn_ y)) else nI 0) σ) := by
  refine mt_of (own := R_P) rfl pl_P (Nat.le_of_ble_eq_true rfl) ?_
  intro zp ze zs zm za zb zt zc F hr hlk
  refine qv_sub (L' := [(0, _), (1, _), (2, _)]) [0, 1, 2] rfl ?_
  refine qv_aload_n F d_P_points_0 0 rfl ?_
  refine qv_iload_n F d_P_points_1 1 rfl ?_
  refine qv_iload_n F d_P_points_2 2 rfl ?_
  refine i_P_82i F (c_P_isVariableIn l X σ x y hm) (by decide) (Nat.le_of_ble_eq_true rfl) d_P_points_3 ?_
  refine qv_ifneB F d_P_points_6 rfl (fun hb => ?_) (fun hb => ?_)
  ·
    have hx := hb
    obtain ⟨j, k, hj, hk, rfl, rfl⟩ := iv_t hm hx
    refine qv_aload_n F d_P_points_11 0 rfl ?_
    refine g_P_26 F d_P_points_12 ?_
    refine qv_iload_n F d_P_points_15 1 rfl ?_
    refine qv_iload_n F d_P_points_16 2 rfl ?_
    refine i_P_85i F (c_T_pointedTo l X σ j k (by omega)) (by decide) (Nat.le_of_ble_eq_true rfl) d_P_points_17 ?_
    exact qv_iret F hr hlk d_P_points_20 (ei_of (by rw [hx, tn_nI (by omega), tn_nI (by omega)]; rfl) rfl)
  ·
    refine qv_iconst F (nI 0) d_P_points_9 ic_0 ?_
    exact qv_iret F hr hlk d_P_points_10 (ei_of (by rw [hb]; rfl) rfl)
set_option maxRecDepth 100000 in
set_option maxHeartbeats 4000000 in
theorem c_P_alias (l : Launch) (X : wX) (σ : sg) (x y z w : Int32) (hm : ∀ k, σ 17 k ≤ 8) (h21 : ∀ k, σ 21 k < 256) : mt_ l X y_P_alias w_P_alias 2 [.ref (adr X 0), .int x, .int y, .int z, .int w] σ (ei_ (nI (iv_ (σ 17) x y && (iv_ (σ 17) z w && !decide (σ 21 (tn_ x * 16 + tn_ y) &&& σ 21 (tn_ z * 16 + tn_ w) = 0))).toNat) σ) := by
  refine mt_of (own := R_P) rfl pl_P (Nat.le_of_ble_eq_true rfl) ?_
  intro zp ze zs zm za zb zt zc F hr hlk
  refine qv_sub (L' := [(0, _), (1, _), (2, _), (3, _), (4, _)]) [0, 1, 2, 3, 4] rfl ?_
  refine qv_aload_n F d_P_alias_0 0 rfl ?_
  refine qv_iload_n F d_P_alias_1 1 rfl ?_
  refine qv_iload_n F d_P_alias_2 2 rfl ?_
  refine i_P_82i F (c_P_isVariableIn l X σ x y hm) (by decide) (Nat.le_of_ble_eq_true rfl) d_P_alias_3 ?_
  refine qv_ifeqB F d_P_alias_6 rfl (fun hb => ?_) (fun hb => ?_)
  ·
    refine qv_iconst F (nI 0) d_P_alias_19 ic_0 ?_
    exact qv_zret F hr hlk (by first | exact Or.inl rfl | exact Or.inr rfl | exact bz_01 _) d_P_alias_20 (ei_of (by rw [hb]; rfl) rfl)
  ·
    have hx := hb
    refine qv_aload_n F d_P_alias_9 0 rfl ?_
    refine qv_iload_n F d_P_alias_10 3 rfl ?_
    refine qv_iload F d_P_alias_11 4 rfl ?_
    refine i_P_82i F (c_P_isVariableIn l X σ z w hm) (by decide) (Nat.le_of_ble_eq_true rfl) d_P_alias_13 ?_
    refine qv_ifneB F d_P_alias_16 rfl (fun hb => ?_) (fun hb => ?_)
    ·
      have hz := hb
      obtain ⟨j, k, hj, hk, rfl, rfl⟩ := iv_t hm hx
      obtain ⟨a, b, ha, hb1, rfl, rfl⟩ := iv_t hm hz
      have q := and_256 (a := σ 21 (j * 16 + k)) (h21 (a * 16 + b))
      refine qv_aload_n F d_P_alias_21 0 rfl ?_
      refine g_P_26 F d_P_alias_22 ?_
      refine qv_iload_n F d_P_alias_25 1 rfl ?_
      refine qv_iload_n F d_P_alias_26 2 rfl ?_
      refine i_P_85i F (c_T_pointedTo l X σ j k (by omega)) (by decide) (Nat.le_of_ble_eq_true rfl) d_P_alias_27 ?_
      refine qv_aload_n F d_P_alias_30 0 rfl ?_
      refine g_P_26 F d_P_alias_31 ?_
      refine qv_iload_n F d_P_alias_34 3 rfl ?_
      refine qv_iload F d_P_alias_35 4 rfl ?_
      refine i_P_85i F (c_T_pointedTo l X σ a b (by omega)) (by decide) (Nat.le_of_ble_eq_true rfl) d_P_alias_37 ?_
      refine qv_iand F d_P_alias_40 ?_
      refine qv_ifeq F d_P_alias_41 rfl (by omega) (fun hb => ?_) (fun hb => ?_)
      ·
        refine qv_iconst F (nI 0) d_P_alias_48 ic_0 ?_
        exact qv_zret F hr hlk (by first | exact Or.inl rfl | exact Or.inr rfl | exact bz_01 _) d_P_alias_49 (ei_of (by rw [hx, hz, tn_nI (by omega), tn_nI (by omega), tn_nI (by omega), tn_nI (by omega), decide_eq_true hb]; rfl) rfl)
      ·
        refine qv_iconst F (nI 1) d_P_alias_44 ic_1 ?_
        refine qv_goto F d_P_alias_45 rfl ?_
        exact qv_zret F hr hlk (by first | exact Or.inl rfl | exact Or.inr rfl | exact bz_01 _) d_P_alias_49 (ei_of (by rw [hx, hz, tn_nI (by omega), tn_nI (by omega), tn_nI (by omega), tn_nI (by omega), decide_eq_false hb]; rfl) rfl)
    ·
      refine qv_iconst F (nI 0) d_P_alias_19 ic_0 ?_
      exact qv_zret F hr hlk (by first | exact Or.inl rfl | exact Or.inr rfl | exact bz_01 _) d_P_alias_20 (ei_of (by rw [hx, hb]; rfl) rfl)
def cx_ (t17 t18 t11 : Nat → Nat) (n : Nat) (x y : Int32) : Int32 := if (wi_ x n && wi_ y (t17 (t11 (tn_ x)))) = true then nI (t18 (tn_ x) + tn_ y) else -1
set_option maxRecDepth 100000 in
set_option maxHeartbeats 4000000 in
theorem c_P_context (l : Launch) (X : wX) (σ : sg) (x y : Int32) (hn : σ 2 2 ≤ 8) (h11 : ∀ k, σ 11 k < 4) (hm : ∀ k, σ 17 k ≤ 8) : mt_ l X y_P_context w_P_context 1 [.ref (adr X 0), .int x, .int y] σ (ei_ (cx_ (σ 17) (σ 18) (σ 11) (σ 2 2) x y) σ) := by
  refine mt_of (own := R_P) rfl pl_P (Nat.le_of_ble_eq_true rfl) ?_
  intro zp ze zs zm za zb zt zc F hr hlk
  refine qv_sub (L' := [(0, _), (1, _), (2, _)]) [0, 1, 2] rfl ?_
  refine qv_iload_n F d_P_context_0 1 rfl ?_
  refine qv_aload_n F d_P_context_1 0 rfl ?_
  refine g_P_19 F d_P_context_2 ?_
  refine g_P_94 F d_P_context_5 ?_
  refine i_P_41i F (c_P_isWithin l X σ x (σ 2 2) (by omega)) (by decide) (Nat.le_of_ble_eq_true rfl) d_P_context_8 ?_
  refine qv_ifneB F d_P_context_11 rfl (fun hb => ?_) (fun hb => ?_)
  ·
    have hx := hb
    obtain ⟨j, hj, rfl⟩ := wi_t (by omega) hb
    have q11 := h11 j
    have q17 := hm (σ 11 j)
    refine qv_iload_n F d_P_context_16 2 rfl ?_
    refine qv_aload_n F d_P_context_17 0 rfl ?_
    refine g_P_19 F d_P_context_18 ?_
    refine g_P_91 F d_P_context_21 ?_
    refine qv_aload_n F d_P_context_24 0 rfl ?_
    refine g_P_12 F d_P_context_25 ?_
    refine g_P_97 F d_P_context_28 ?_
    refine qv_iload_n F d_P_context_31 1 rfl ?_
    refine ld_11 F (by omega) d_P_context_32 ?_
    refine ld_17 F (by omega) d_P_context_33 ?_
    refine i_P_41i F (c_P_isWithin l X σ y (σ 17 (σ 11 j)) (by omega)) (by decide) (Nat.le_of_ble_eq_true rfl) d_P_context_34 ?_
    refine qv_ifneB F d_P_context_37 rfl (fun hb => ?_) (fun hb => ?_)
    ·
      have hy := hb
      obtain ⟨k, hk, rfl⟩ := wi_t (by omega) hb
      refine qv_aload_n F d_P_context_42 0 rfl ?_
      refine g_P_19 F d_P_context_43 ?_
      refine qv_iload_n F d_P_context_46 1 rfl ?_
      refine qv_iload_n F d_P_context_47 2 rfl ?_
      refine i_P_100i F (c_N_contextBy l X σ j k (by omega)) (by decide) (Nat.le_of_ble_eq_true rfl) d_P_context_48 ?_
      exact qv_iret F hr hlk d_P_context_51 (ei_of (by unfold cx_; rw [hx, tn_nI (by omega), hy, tn_nI (by omega)]; rfl) rfl)
    ·
      refine qv_iconst F (-1) d_P_context_40 ic_m1 ?_
      exact qv_iret F hr hlk d_P_context_41 (ei_of (by unfold cx_; rw [hx, tn_nI (by omega), hb]; rfl) rfl)
  ·
    refine qv_iconst F (-1) d_P_context_14 ic_m1 ?_
    exact qv_iret F hr hlk d_P_context_15 (ei_of (by unfold cx_; rw [hb]; rfl) rfl)
theorem of_t {y : Int32} {n : Nat} (h : of_ y n = true) : ∃ k : Nat, k < 16 ∧ y = nI k := by
  unfold of_ at h
  rw [Bool.and_eq_true] at h
  exact wi_t (by decide) h.1
theorem mp_t {t : sg} {n : Nat} (hn : n ≤ 8) {x y z : Int32} {b : Bool} (h : mp_ t n x y z b = true) : ∃ j k i : Nat, j < n ∧ k < 16 ∧ i < 16 ∧ x = nI j ∧ y = nI k ∧ z = nI i := by
  unfold mp_ at h
  rw [Bool.and_eq_true] at h
  obtain ⟨j, hj, e1⟩ := wi_t (by omega) h.1
  have h2 := h.2
  cases b with
  | true =>
    rw [if_pos rfl, Bool.and_eq_true] at h2
    obtain ⟨k, hk, e2⟩ := of_t h2.1
    obtain ⟨i, hi, e3⟩ := of_t h2.2
    exact ⟨j, k, i, hj, hk, hi, e1, e2, e3⟩
  | false =>
    rw [if_neg (by decide), Bool.and_eq_true] at h2
    obtain ⟨k, hk, e2⟩ := of_t h2.1
    obtain ⟨i, hi, e3⟩ := of_t h2.2
    exact ⟨j, k, i, hj, hk, hi, e1, e2, e3⟩
def pn_ (b : Bool) (n : Nat) : Int32 := if b = true then (if n < 4 then nI (n + 1) else -2) else -1
set_option maxRecDepth 100000 in
set_option maxHeartbeats 4000000 in
theorem c_P_pass (l : Launch) (X : wX) (σ : sg) (x y z : Int32) (b : Bool) (hs : σ 1 7 ≤ 8) (h11 : ∀ k, σ 11 k < 4) (h12 : ∀ k, σ 12 k < 4) (h13 : ∀ k, σ 13 k ≤ 4) : mt_ l X y_P_pass w_P_pass 3 [.ref (adr X 0), .int x, .int y, .int z, .int (nI b.toNat)] σ (ei_ (pn_ (mp_ σ (σ 1 7) x y z b) (σ 13 (tn_ x))) (if mp_ σ (σ 1 7) x y z b = true then (if σ 13 (tn_ x) < 4 then ap_ σ (tn_ x) (tn_ y) (tn_ z) b.toNat else σ) else σ)) := by
  refine mt_of (own := R_P) rfl pl_P (Nat.le_of_ble_eq_true rfl) ?_
  intro zp ze zs zm za zb zt zc F hr hlk
  refine qv_sub (L' := [(0, _), (1, _), (2, _), (3, _), (4, _)]) [0, 1, 2, 3, 4] rfl ?_
  refine qv_aload_n F d_P_pass_0 0 rfl ?_
  refine g_P_12 F d_P_pass_1 ?_
  refine qv_iload_n F d_P_pass_4 1 rfl ?_
  refine qv_iload_n F d_P_pass_5 2 rfl ?_
  refine qv_iload_n F d_P_pass_6 3 rfl ?_
  refine qv_iload F d_P_pass_7 4 rfl ?_
  refine i_P_63i F (c_G_mayPass l X σ x y z b hs h11 h12) (by decide) (Nat.le_of_ble_eq_true rfl) d_P_pass_9 ?_
  refine qv_ifneB F d_P_pass_12 rfl (fun hb => ?_) (fun hb => ?_)
  ·
    have hx := hb
    obtain ⟨j, k, i, hj, hk, hi, rfl, rfl, rfl⟩ := mp_t hs hx
    refine qv_aload_n F d_P_pass_17 0 rfl ?_
    refine g_P_12 F d_P_pass_18 ?_
    refine qv_iload_n F d_P_pass_21 1 rfl ?_
    refine qv_iload_n F d_P_pass_22 2 rfl ?_
    refine qv_iload_n F d_P_pass_23 3 rfl ?_
    refine qv_iload F d_P_pass_24 4 rfl ?_
    refine i_P_67i F (c_G_addPass l X σ j k i b (by omega) (h13 j)) (by decide) (Nat.le_of_ble_eq_true rfl) d_P_pass_26 ?_
    exact qv_iret F hr hlk d_P_pass_29 (ei_of (by unfold pn_; rw [hx, tn_nI (by omega)]; rfl) (by rw [hx, tn_nI (by omega), tn_nI (by omega), tn_nI (by omega)]; rfl))
  ·
    refine qv_iconst F (-1) d_P_pass_15 ic_m1 ?_
    exact qv_iret F hr hlk d_P_pass_16 (ei_of (by unfold pn_; rw [hb]; rfl) (by rw [hb]; rfl))

