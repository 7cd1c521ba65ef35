/-! the JDK's bitCount, and the sums of bits -/
def ush_ (x y : Int32) : Int32 := (x.toUInt32 >>> (y.toUInt32 &&& Int32.toUInt32 31)).toInt32
def bc1_ (x : Int32) : Int32 := x - (ush_ x (nI 1) &&& 1431655765)
def bc2_ (x : Int32) : Int32 := (x &&& 858993459) + (ush_ x (nI 2) &&& 858993459)
def bc3_ (x : Int32) : Int32 := (x + ush_ x (nI 4)) &&& 252645135
def bc4_ (x : Int32) : Int32 := x + ush_ x (nI 8)
def bc5_ (x : Int32) : Int32 := x + ush_ x (nI 16)
theorem bc_eq : ∀ x, x < 256 → bc5_ (bc4_ (bc3_ (bc2_ (bc1_ (nI x))))) &&& nI 63 = nI (pc_ x) := by decide +kernel
set_option maxRecDepth 100000 in
set_option maxHeartbeats 4000000 in
theorem c_I_bitCount (l : Launch) (X : wX) (σ : sg) (x : Nat) (hx : x < 256) : mt_ l X y_I_bitCount w_I_bitCount 0 [.int (nI x)] σ (ei_ (nI (pc_ x)) σ) := by
  refine mt_of (own := R_I) rfl pl_I (Nat.le_of_ble_eq_true rfl) ?_
  intro zp ze zs zm za zb zt zc F hr hlk
  refine qv_sub (L' := [(0, _)]) [0] rfl ?_
  refine qv_iload_n F d_I_bitCount_0 0 rfl ?_
  refine qv_iload_n F d_I_bitCount_1 0 rfl ?_
  refine qv_iconst F (nI 1) d_I_bitCount_2 ic_1 ?_
  refine qv_iushr F d_I_bitCount_3 ?_
  refine qv_ldcw F 1431655765 (by decide +kernel) d_I_bitCount_4 ?_
  refine qv_iandI F d_I_bitCount_7 ?_
  refine qv_isubI F d_I_bitCount_8 ?_
  refine qv_istore_n (L' := [(0, .int (bc1_ (nI x)))]) F d_I_bitCount_9 (by decide) rfl ?_
  generalize hy : bc1_ (nI x) = y
  refine qv_iload_n F d_I_bitCount_10 0 rfl ?_
  refine qv_ldcw F 858993459 (by decide +kernel) d_I_bitCount_11 ?_
  refine qv_iandI F d_I_bitCount_14 ?_
  refine qv_iload_n F d_I_bitCount_15 0 rfl ?_
  refine qv_iconst F (nI 2) d_I_bitCount_16 ic_2 ?_
  refine qv_iushr F d_I_bitCount_17 ?_
  refine qv_ldcw F 858993459 (by decide +kernel) d_I_bitCount_18 ?_
  refine qv_iandI F d_I_bitCount_21 ?_
  refine qv_iaddI F d_I_bitCount_22 ?_
  refine qv_istore_n (L' := [(0, .int (bc2_ y))]) F d_I_bitCount_23 (by decide) rfl ?_
  generalize hz : bc2_ y = z
  refine qv_iload_n F d_I_bitCount_24 0 rfl ?_
  refine qv_iload_n F d_I_bitCount_25 0 rfl ?_
  refine qv_iconst F (nI 4) d_I_bitCount_26 ic_4 ?_
  refine qv_iushr F d_I_bitCount_27 ?_
  refine qv_iaddI F d_I_bitCount_28 ?_
  refine qv_ldcw F 252645135 (by decide +kernel) d_I_bitCount_29 ?_
  refine qv_iandI F d_I_bitCount_32 ?_
  refine qv_istore_n (L' := [(0, .int (bc3_ z))]) F d_I_bitCount_33 (by decide) rfl ?_
  generalize hw : bc3_ z = w
  refine qv_iload_n F d_I_bitCount_34 0 rfl ?_
  refine qv_iload_n F d_I_bitCount_35 0 rfl ?_
  refine qv_bipush F (nI 8) d_I_bitCount_36 bic_8 ?_
  refine qv_iushr F d_I_bitCount_38 ?_
  refine qv_iaddI F d_I_bitCount_39 ?_
  refine qv_istore_n (L' := [(0, .int (bc4_ w))]) F d_I_bitCount_40 (by decide) rfl ?_
  generalize hv : bc4_ w = v
  refine qv_iload_n F d_I_bitCount_41 0 rfl ?_
  refine qv_iload_n F d_I_bitCount_42 0 rfl ?_
  refine qv_bipush F (nI 16) d_I_bitCount_43 bic_16 ?_
  refine qv_iushr F d_I_bitCount_45 ?_
  refine qv_iaddI F d_I_bitCount_46 ?_
  refine qv_istore_n (L' := [(0, .int (bc5_ v))]) F d_I_bitCount_47 (by decide) rfl ?_
  refine qv_iload_n F d_I_bitCount_48 0 rfl ?_
  refine qv_bipush F (nI 63) d_I_bitCount_49 bic_63 ?_
  refine qv_iandI F d_I_bitCount_51 ?_
  exact qv_iret F hr hlk d_I_bitCount_52 (ei_of (by rw [← hv, ← hw, ← hz, ← hy]; exact bc_eq x hx) rfl)
def sp_ (f : Nat → Nat) (n : Nat) : Nat := sm_ (fun k => pc_ (f k)) n
set_option maxRecDepth 100000 in
set_option maxHeartbeats 4000000 in
theorem c_T_countBits (l : Launch) (X : wX) (σ : sg) (q n : Nat) (hq : dz_[q]? = some (.inl (false, n))) (hnq : n < 2 ^ 31) (h : ∀ k, σ q k < 256) : mt_ l X y_T_countBits w_T_countBits 1 [.ref (adr X q)] σ (ei_ (nI (sp_ (σ q) n)) σ) := by
  refine mt_of (own := R_T) rfl pl_T (Nat.le_of_ble_eq_true rfl) ?_
  intro zp ze zs zm za zb zt zc F hr hlk
  refine qv_sub (L' := [(0, _)]) [0] rfl ?_
  refine qv_iconst F (nI 0) d_T_countBits_0 ic_0 ?_
  refine qv_istore_n (L' := [(1, _), (0, _)]) F d_T_countBits_1 (by decide) rfl ?_
  refine qv_aload_n F d_T_countBits_2 1 rfl ?_
  refine qv_astore_n (L' := [(2, _), (1, _), (0, _)]) F d_T_countBits_3 (by decide) rfl ?_
  refine qv_aload_n F d_T_countBits_4 0 rfl ?_
  refine qv_alen F q hq d_T_countBits_5 ?_
  refine qv_istore_n (L' := [(3, _), (2, _), (1, _), (0, _)]) F d_T_countBits_6 (by decide) rfl ?_
  refine qv_iconst F (nI 0) d_T_countBits_7 ic_0 ?_
  refine qv_istore (L' := [(4, _), (3, _), (2, _), (1, _), (0, _)]) F d_T_countBits_8 (by decide) rfl ?_
  have lp := lu_up (fun i (_ : Unit) => vv_ zp l ze (rr_ 1) zs zm za zb zt zc (MQ zb (mq_ X (ei_ (nI (sp_ (σ q) n)) σ)) za zs 0 0 (aw_ X)) X 6 [(4, .int (nI i)), (3, .int (nI n)), (2, .ref (adr X q)), (1, .int (nI (sp_ (σ q) i))), (0, .ref (adr X q))] σ 10 []) (fun _ _ => True) n ?_ ?_ 0 () (Nat.zero_le _) trivial
  · exact lp
  · intro _ _
    refine qv_iload F d_T_countBits_10 0 rfl ?_
    refine qv_iload_n F d_T_countBits_12 1 rfl ?_
    refine qv_icmpge F d_T_countBits_13 rfl (by omega) (by omega) (fun hb => ?_) (fun hb => ?_)
    ·
      refine qv_iload_n F d_T_countBits_36 3 rfl ?_
      exact qv_iret F hr hlk d_T_countBits_37 (ei_of rfl rfl)
    ·
      omega
  · intro i _ hi _ ih
    refine qv_iload F d_T_countBits_10 0 rfl ?_
    refine qv_iload_n F d_T_countBits_12 1 rfl ?_
    refine qv_icmpge F d_T_countBits_13 rfl (by omega) (by omega) (fun hb => ?_) (fun hb => ?_)
    ·
      omega
    ·
      refine qv_aload_n F d_T_countBits_16 2 rfl ?_
      refine qv_iload F d_T_countBits_17 0 rfl ?_
      refine qv_iald F q hq hi hnq d_T_countBits_19 ?_
      refine qv_istore (L' := [(5, _), (4, _), (3, _), (2, _), (1, _), (0, _)]) F d_T_countBits_20 (by decide) rfl ?_
      refine qv_iload_n F d_T_countBits_22 4 rfl ?_
      refine qv_iload F d_T_countBits_23 0 rfl ?_
      refine i_T_29i F (c_I_bitCount l X σ (σ q i) (h i)) (by decide) (Nat.le_of_ble_eq_true rfl) d_T_countBits_25 ?_
      refine qv_iadd F d_T_countBits_28 ?_
      refine qv_istore_n (L' := [(1, _), (5, _), (4, _), (3, _), (2, _), (0, _)]) F d_T_countBits_29 (by decide) rfl ?_
      refine qv_sub (L' := [(4, _), (3, _), (2, _), (1, _), (0, _)]) [2, 3, 4, 0, 5] rfl ?_
      refine qv_iinc (L' := [(4, _), (3, _), (2, _), (1, _), (0, _)]) F _ d_T_countBits_30 0 rfl (ii_1 _) (by decide) rfl ?_
      refine qv_goto F d_T_countBits_33 rfl ?_
      exact ih () trivial
set_option maxRecDepth 100000 in
set_option maxHeartbeats 4000000 in
theorem c_T_countPoints (l : Launch) (X : wX) (σ : sg) (h : ∀ k, σ 21 k < 256) : mt_ l X y_T_countPoints w_T_countPoints 2 [.ref (adr X 3)] σ (ei_ (nI (sp_ (σ 21) 128)) σ) := by
  refine mt_of (own := R_T) rfl pl_T (Nat.le_of_ble_eq_true rfl) ?_
  intro zp ze zs zm za zb zt zc F hr hlk
  refine qv_sub (L' := [(0, _)]) [0] rfl ?_
  refine qv_aload_n F d_T_countPoints_0 0 rfl ?_
  refine g_T_11 F d_T_countPoints_1 ?_
  refine i_T_25i F (c_T_countBits l X σ 21 128 rfl (by decide) h) (by decide) (Nat.le_of_ble_eq_true rfl) d_T_countPoints_4 ?_
  exact qv_iret F hr hlk d_T_countPoints_7 (ei_of rfl rfl)
set_option maxRecDepth 100000 in
set_option maxHeartbeats 4000000 in
theorem c_T_countHolds (l : Launch) (X : wX) (σ : sg) (h : ∀ k, σ 22 k < 256) : mt_ l X y_T_countHolds w_T_countHolds 2 [.ref (adr X 3)] σ (ei_ (nI (sp_ (σ 22) 16)) σ) := by
  refine mt_of (own := R_T) rfl pl_T (Nat.le_of_ble_eq_true rfl) ?_
  intro zp ze zs zm za zb zt zc F hr hlk
  refine qv_sub (L' := [(0, _)]) [0] rfl ?_
  refine qv_aload_n F d_T_countHolds_0 0 rfl ?_
  refine g_T_15 F d_T_countHolds_1 ?_
  refine i_T_25i F (c_T_countBits l X σ 22 16 rfl (by decide) h) (by decide) (Nat.le_of_ble_eq_true rfl) d_T_countHolds_4 ?_
  exact qv_iret F hr hlk d_T_countHolds_7 (ei_of rfl rfl)

