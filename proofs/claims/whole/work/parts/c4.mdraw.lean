/-! the reference: diagrams -/
set_option maxRecDepth 100000 in
set_option maxHeartbeats 4000000 in
theorem c_M_number (l : Launch) (X : wX) (σ : sg) (o p : Nat) (hoe : σ 28 22 = o) (ho : o < 6) (hp : p < 3) : mt_ l X y_M_number w_M_number 0 [.ref (adr X 28), .int (nI p)] σ (ei_ (nI (staT.getD (o * 3 + p) 0)) σ) := by
  refine mt_of (own := R_M) rfl pl_M (Nat.le_of_ble_eq_true rfl) ?_
  intro zp ze zs zm za zb zt zc F hr hlk
  refine qv_sub (L' := [(0, _), (1, _)]) [0, 1] rfl ?_
  refine qv_aload_n F d_M_number_0 0 rfl ?_
  refine g_M_139 F d_M_number_1 ?_
  rw [hoe]
  refine qv_iconst F (nI 2) d_M_number_4 ic_2 ?_
  refine qv_idiv F d_M_number_5 (by omega) (by decide) (by decide) ?_
  refine qv_istore_n (L' := [(2, _), (0, _), (1, _)]) F d_M_number_6 (by decide) rfl ?_
  refine qv_iload_n F d_M_number_7 2 rfl ?_
  refine qv_ifne F d_M_number_8 rfl (by omega) (fun hb => ?_) (fun hb => ?_)
  ·
    refine qv_iload_n F d_M_number_13 0 rfl ?_
    refine qv_ifne F d_M_number_14 rfl (by omega) (fun hb => ?_) (fun hb => ?_)
    ·
      have h1 := hb
      refine qv_iconst F (nI 0) d_M_number_21 ic_0 ?_
      refine qv_istore_n (L' := [(3, _), (2, _), (0, _), (1, _)]) F d_M_number_22 (by decide) rfl ?_
      refine qv_iconst F (nI 3) d_M_number_23 ic_3 ?_
      refine qv_iload_n F d_M_number_24 1 rfl ?_
      refine qv_isub F d_M_number_25 (by omega) ?_
      refine qv_iload_n F d_M_number_26 0 rfl ?_
      refine qv_isub F d_M_number_27 (by omega) ?_
      refine qv_istore (L' := [(4, _), (3, _), (2, _), (0, _), (1, _)]) F d_M_number_28 (by decide) rfl ?_
      refine qv_aload_n F d_M_number_30 3 rfl ?_
      refine g_M_139 F d_M_number_31 ?_
      rw [hoe]
      refine qv_iconst F (nI 2) d_M_number_34 ic_2 ?_
      refine qv_irem F d_M_number_35 (by omega) (by decide) (by decide) ?_
      refine qv_ifne F d_M_number_36 rfl (by omega) (fun hb => ?_) (fun hb => ?_)
      ·
        have h2 := hb
        refine qv_iconst F (nI 0) d_M_number_43 ic_0 ?_
        refine qv_iload_n F d_M_number_44 4 rfl ?_
        refine qv_iconst F (nI 1) d_M_number_45 ic_1 ?_
        refine qv_icmpne F d_M_number_46 rfl (by omega) (by omega) (fun hb => ?_) (fun hb => ?_)
        ·
          refine qv_iconst F (nI 0) d_M_number_53 ic_0 ?_
          refine qv_icmpne F d_M_number_54 (tgt := 61) rfl (by decide) (by decide) (fun q => absurd rfl q) (fun _ => ?_)
          refine qv_iload_n F d_M_number_57 1 rfl ?_
          refine qv_goto F d_M_number_58 rfl ?_
          exact qv_iret F hr hlk d_M_number_63 (ei_of (congrArg nI (by rcases (by omega : o = 0 ∨ o = 1 ∨ o = 2 ∨ o = 3 ∨ o = 4 ∨ o = 5) with rfl | rfl | rfl | rfl | rfl | rfl <;> rcases (by omega : p = 0 ∨ p = 1 ∨ p = 2) with rfl | rfl | rfl <;> first | rfl | omega)) rfl)
        ·
          refine qv_iconst F (nI 1) d_M_number_49 ic_1 ?_
          refine qv_goto F d_M_number_50 rfl ?_
          refine qv_icmpne F d_M_number_54 (tgt := 61) rfl (by decide) (by decide) (fun _ => ?_) (fun q => absurd q (by decide))
          refine qv_iload F d_M_number_61 0 rfl ?_
          exact qv_iret F hr hlk d_M_number_63 (ei_of (congrArg nI (by rcases (by omega : o = 0 ∨ o = 1 ∨ o = 2 ∨ o = 3 ∨ o = 4 ∨ o = 5) with rfl | rfl | rfl | rfl | rfl | rfl <;> rcases (by omega : p = 0 ∨ p = 1 ∨ p = 2) with rfl | rfl | rfl <;> first | rfl | omega)) rfl)
      ·
        have h2 := hb
        refine qv_iconst F (nI 1) d_M_number_39 ic_1 ?_
        refine qv_goto F d_M_number_40 rfl ?_
        refine qv_iload_n F d_M_number_44 4 rfl ?_
        refine qv_iconst F (nI 1) d_M_number_45 ic_1 ?_
        refine qv_icmpne F d_M_number_46 rfl (by omega) (by omega) (fun hb => ?_) (fun hb => ?_)
        ·
          refine qv_iconst F (nI 0) d_M_number_53 ic_0 ?_
          refine qv_icmpne F d_M_number_54 (tgt := 61) rfl (by decide) (by decide) (fun _ => ?_) (fun q => absurd q (by decide))
          refine qv_iload F d_M_number_61 0 rfl ?_
          exact qv_iret F hr hlk d_M_number_63 (ei_of (congrArg nI (by rcases (by omega : o = 0 ∨ o = 1 ∨ o = 2 ∨ o = 3 ∨ o = 4 ∨ o = 5) with rfl | rfl | rfl | rfl | rfl | rfl <;> rcases (by omega : p = 0 ∨ p = 1 ∨ p = 2) with rfl | rfl | rfl <;> first | rfl | omega)) rfl)
        ·
          refine qv_iconst F (nI 1) d_M_number_49 ic_1 ?_
          refine qv_goto F d_M_number_50 rfl ?_
          refine qv_icmpne F d_M_number_54 (tgt := 61) rfl (by decide) (by decide) (fun q => absurd rfl q) (fun _ => ?_)
          refine qv_iload_n F d_M_number_57 1 rfl ?_
          refine qv_goto F d_M_number_58 rfl ?_
          exact qv_iret F hr hlk d_M_number_63 (ei_of (congrArg nI (by rcases (by omega : o = 0 ∨ o = 1 ∨ o = 2 ∨ o = 3 ∨ o = 4 ∨ o = 5) with rfl | rfl | rfl | rfl | rfl | rfl <;> rcases (by omega : p = 0 ∨ p = 1 ∨ p = 2) with rfl | rfl | rfl <;> first | rfl | omega)) rfl)
    ·
      have h1 := hb
      refine qv_iconst F (nI 1) d_M_number_17 ic_1 ?_
      refine qv_goto F d_M_number_18 rfl ?_
      refine qv_istore_n (L' := [(3, _), (2, _), (0, _), (1, _)]) F d_M_number_22 (by decide) rfl ?_
      refine qv_iconst F (nI 3) d_M_number_23 ic_3 ?_
      refine qv_iload_n F d_M_number_24 1 rfl ?_
      refine qv_isub F d_M_number_25 (by omega) ?_
      refine qv_iload_n F d_M_number_26 0 rfl ?_
      refine qv_isub F d_M_number_27 (by omega) ?_
      refine qv_istore (L' := [(4, _), (3, _), (2, _), (0, _), (1, _)]) F d_M_number_28 (by decide) rfl ?_
      refine qv_aload_n F d_M_number_30 3 rfl ?_
      refine g_M_139 F d_M_number_31 ?_
      rw [hoe]
      refine qv_iconst F (nI 2) d_M_number_34 ic_2 ?_
      refine qv_irem F d_M_number_35 (by omega) (by decide) (by decide) ?_
      refine qv_ifne F d_M_number_36 rfl (by omega) (fun hb => ?_) (fun hb => ?_)
      ·
        have h2 := hb
        refine qv_iconst F (nI 0) d_M_number_43 ic_0 ?_
        refine qv_iload_n F d_M_number_44 4 rfl ?_
        refine qv_iconst F (nI 1) d_M_number_45 ic_1 ?_
        refine qv_icmpne F d_M_number_46 rfl (by omega) (by omega) (fun hb => ?_) (fun hb => ?_)
        ·
          refine qv_iconst F (nI 0) d_M_number_53 ic_0 ?_
          refine qv_icmpne F d_M_number_54 (tgt := 61) rfl (by decide) (by decide) (fun q => absurd rfl q) (fun _ => ?_)
          refine qv_iload_n F d_M_number_57 1 rfl ?_
          refine qv_goto F d_M_number_58 rfl ?_
          exact qv_iret F hr hlk d_M_number_63 (ei_of (congrArg nI (by rcases (by omega : o = 0 ∨ o = 1 ∨ o = 2 ∨ o = 3 ∨ o = 4 ∨ o = 5) with rfl | rfl | rfl | rfl | rfl | rfl <;> rcases (by omega : p = 0 ∨ p = 1 ∨ p = 2) with rfl | rfl | rfl <;> first | rfl | omega)) rfl)
        ·
          refine qv_iconst F (nI 1) d_M_number_49 ic_1 ?_
          refine qv_goto F d_M_number_50 rfl ?_
          refine qv_icmpne F d_M_number_54 (tgt := 61) rfl (by decide) (by decide) (fun _ => ?_) (fun q => absurd q (by decide))
          refine qv_iload F d_M_number_61 0 rfl ?_
          exact qv_iret F hr hlk d_M_number_63 (ei_of (congrArg nI (by rcases (by omega : o = 0 ∨ o = 1 ∨ o = 2 ∨ o = 3 ∨ o = 4 ∨ o = 5) with rfl | rfl | rfl | rfl | rfl | rfl <;> rcases (by omega : p = 0 ∨ p = 1 ∨ p = 2) with rfl | rfl | rfl <;> first | rfl | omega)) rfl)
      ·
        have h2 := hb
        refine qv_iconst F (nI 1) d_M_number_39 ic_1 ?_
        refine qv_goto F d_M_number_40 rfl ?_
        refine qv_iload_n F d_M_number_44 4 rfl ?_
        refine qv_iconst F (nI 1) d_M_number_45 ic_1 ?_
        refine qv_icmpne F d_M_number_46 rfl (by omega) (by omega) (fun hb => ?_) (fun hb => ?_)
        ·
          refine qv_iconst F (nI 0) d_M_number_53 ic_0 ?_
          refine qv_icmpne F d_M_number_54 (tgt := 61) rfl (by decide) (by decide) (fun _ => ?_) (fun q => absurd q (by decide))
          refine qv_iload F d_M_number_61 0 rfl ?_
          exact qv_iret F hr hlk d_M_number_63 (ei_of (congrArg nI (by rcases (by omega : o = 0 ∨ o = 1 ∨ o = 2 ∨ o = 3 ∨ o = 4 ∨ o = 5) with rfl | rfl | rfl | rfl | rfl | rfl <;> rcases (by omega : p = 0 ∨ p = 1 ∨ p = 2) with rfl | rfl | rfl <;> first | rfl | omega)) rfl)
        ·
          refine qv_iconst F (nI 1) d_M_number_49 ic_1 ?_
          refine qv_goto F d_M_number_50 rfl ?_
          refine qv_icmpne F d_M_number_54 (tgt := 61) rfl (by decide) (by decide) (fun q => absurd rfl q) (fun _ => ?_)
          refine qv_iload_n F d_M_number_57 1 rfl ?_
          refine qv_goto F d_M_number_58 rfl ?_
          exact qv_iret F hr hlk d_M_number_63 (ei_of (congrArg nI (by rcases (by omega : o = 0 ∨ o = 1 ∨ o = 2 ∨ o = 3 ∨ o = 4 ∨ o = 5) with rfl | rfl | rfl | rfl | rfl | rfl <;> rcases (by omega : p = 0 ∨ p = 1 ∨ p = 2) with rfl | rfl | rfl <;> first | rfl | omega)) rfl)
  ·
    refine qv_iload_n F d_M_number_11 0 rfl ?_
    exact qv_iret F hr hlk d_M_number_12 (ei_of (congrArg nI (by rcases (by omega : o = 0 ∨ o = 1 ∨ o = 2 ∨ o = 3 ∨ o = 4 ∨ o = 5) with rfl | rfl | rfl | rfl | rfl | rfl <;> rcases (by omega : p = 0 ∨ p = 1 ∨ p = 2) with rfl | rfl | rfl <;> first | rfl | omega)) rfl)
set_option maxRecDepth 100000 in
set_option maxHeartbeats 4000000 in
theorem c_M_index (l : Launch) (X : wX) (σ : sg) (w o a b c : Nat) (hw : w < 2) (hoe : σ 28 22 = o) (ho : o < 6) (ha : a < 8) (hb0 : b < nb2_ w) (hc : c < 8) : mt_ l X y_M_index w_M_index 1 [.ref (adr X 28), .int (nI a), .int (nI b), .int (nI c), .int (nI 3), .int (nI (sl_ w)), .int (nI 3)] σ (ei_ (nI (ix_ w o a b c)) σ) := by
  refine mt_of (own := R_M) rfl pl_M (Nat.le_of_ble_eq_true rfl) ?_
  intro zp ze zs zm za zb zt zc F hr hlk
  refine qv_sub (L' := [(0, _), (1, _), (2, _), (3, _), (4, _), (5, _), (6, _)]) [0, 1, 2, 3, 4, 5, 6] rfl ?_
  have hsl : sl_ w ≤ 4 ∧ b < 2 ^ sl_ w := by
    unfold sl_ nb2_ at *
    by_cases e : w = 0
    · rw [if_pos e] at *; exact ⟨by decide, hb0⟩
    · rw [if_neg e] at *; exact ⟨by decide, hb0⟩
  have hst : ∀ i, i < 18 → staT.getD i 0 < 3 := by decide
  rw [← ia_ix hw ho]
  refine qv_iconst F (nI 0) d_M_index_0 ic_0 ?_
  refine qv_istore (L' := [(7, _), (0, _), (1, _), (2, _), (3, _), (4, _), (5, _), (6, _)]) F d_M_index_1 (by decide) rfl ?_
  refine qv_iconst F (nI 0) d_M_index_3 ic_0 ?_
  refine qv_istore (L' := [(8, _), (7, _), (0, _), (1, _), (2, _), (3, _), (4, _), (5, _), (6, _)]) F d_M_index_4 (by decide) rfl ?_
  have lp := lu_up (fun p (_ : Unit) => vv_ zp l ze (rr_ 1) zs zm za zb zt zc (MQ zb (mq_ X (ei_ (nI (ia_ w o a b c 3)) σ)) za zs 0 0 (aw_ X)) X 10 [(8, .int (nI p)), (7, .int (nI (ia_ w o a b c p))), (0, .ref (adr X 28)), (1, .int (nI a)), (2, .int (nI b)), (3, .int (nI c)), (4, .int (nI 3)), (5, .int (nI (sl_ w))), (6, .int (nI 3))] σ 6 []) (fun _ _ => True) 3 ?_ ?_ 0 () (Nat.zero_le _) trivial
  · exact lp
  · intro _ _
    refine qv_iload F d_M_index_6 0 rfl ?_
    refine qv_iconst F (nI 3) d_M_index_8 ic_3 ?_
    refine qv_icmpge F d_M_index_9 rfl (by decide) (by decide) (fun hb => ?_) (fun hb => ?_)
    ·
      refine qv_iload F d_M_index_66 1 rfl ?_
      exact qv_iret F hr hlk d_M_index_68 (ei_of rfl rfl)
    ·
      exact absurd hb (by decide)
  · intro p _ hp _ ih
    have ih := ih () trivial
    have hlt := ia_lt (o := o) hw ha hb0 hc p (by omega)
    have h16 : 16 ^ p ≤ 16 ^ 2 := Nat.pow_le_pow_right (by decide) (by omega)
    have hn := hst (o * 3 + p) (by omega)
    have e1 : ia_ w o a b c (p + 1) = if staT.getD (o * 3 + p) 0 = 0 then ia_ w o a b c p * 2 ^ 3 + a else if staT.getD (o * 3 + p) 0 = 1 then ia_ w o a b c p * 2 ^ sl_ w + b else ia_ w o a b c p * 2 ^ 3 + c := rfl
    rw [e1] at ih
    generalize ia_ w o a b c p = y at hlt ih ⊢
    have hs16 : 2 ^ sl_ w ≤ 2 ^ 4 := Nat.pow_le_pow_right (by decide) hsl.1
    have hy : y * 2 ^ sl_ w < 2 ^ 32 := Nat.lt_of_le_of_lt (Nat.mul_le_mul (show y ≤ 256 by omega) hs16) (by decide)
    refine qv_iload F d_M_index_6 0 rfl ?_
    refine qv_iconst F (nI 3) d_M_index_8 ic_3 ?_
    refine qv_icmpge F d_M_index_9 rfl (by omega) (by omega) (fun hb => ?_) (fun hb => ?_)
    ·
      omega
    ·
      refine qv_aload_n F d_M_index_12 2 rfl ?_
      refine qv_iload F d_M_index_13 0 rfl ?_
      refine i_M_142i F (c_M_number l X σ o p hoe ho hp) (by decide) (Nat.le_of_ble_eq_true rfl) d_M_index_15 ?_
      generalize staT.getD (o * 3 + p) 0 = n at hn ih ⊢
      refine qv_istore (L' := [(9, _), (8, _), (7, _), (0, _), (1, _), (2, _), (3, _), (4, _), (5, _), (6, _)]) F d_M_index_18 (by decide) rfl ?_
      refine qv_iload F d_M_index_20 0 rfl ?_
      refine qv_ifne F d_M_index_22 rfl (by omega) (fun hb => ?_) (fun hb => ?_)
      ·
        have h1 := hb
        rw [if_neg hb] at ih
        refine qv_iload F d_M_index_35 0 rfl ?_
        refine qv_iconst F (nI 1) d_M_index_37 ic_1 ?_
        refine qv_icmpne F d_M_index_38 rfl (by omega) (by omega) (fun hb => ?_) (fun hb => ?_)
        ·
          rw [if_neg hb] at ih
          refine qv_iload F d_M_index_51 2 rfl ?_
          refine qv_iload F d_M_index_53 9 rfl ?_
          refine qv_ishl F d_M_index_55 (by decide) (by omega) ?_
          refine qv_iload_n F d_M_index_56 6 rfl ?_
          refine qv_ior F d_M_index_57 ?_
          rw [sh_or (show c < 2 ^ 3 by omega)]
          refine qv_istore (L' := [(7, _), (9, _), (8, _), (0, _), (1, _), (2, _), (3, _), (4, _), (5, _), (6, _)]) F d_M_index_58 (by decide) rfl ?_
          refine qv_sub (L' := [(8, _), (7, _), (0, _), (1, _), (2, _), (3, _), (4, _), (5, _), (6, _)]) [2, 0, 3, 4, 5, 6, 7, 8, 9] rfl ?_
          refine qv_iinc (L' := [(8, _), (7, _), (0, _), (1, _), (2, _), (3, _), (4, _), (5, _), (6, _)]) F _ d_M_index_60 0 rfl (ii_1 _) (by decide) rfl ?_
          refine qv_goto F d_M_index_63 rfl ?_
          exact ih
        ·
          rw [if_pos hb] at ih
          refine qv_iload F d_M_index_41 2 rfl ?_
          refine qv_iload F d_M_index_43 8 rfl ?_
          refine qv_ishl F d_M_index_45 (show sl_ w < 32 by omega) hy ?_
          refine qv_iload_n F d_M_index_46 5 rfl ?_
          refine qv_ior F d_M_index_47 ?_
          refine qv_goto F d_M_index_48 rfl ?_
          rw [sh_or hsl.2]
          refine qv_istore (L' := [(7, _), (9, _), (8, _), (0, _), (1, _), (2, _), (3, _), (4, _), (5, _), (6, _)]) F d_M_index_58 (by decide) rfl ?_
          refine qv_sub (L' := [(8, _), (7, _), (0, _), (1, _), (2, _), (3, _), (4, _), (5, _), (6, _)]) [2, 0, 3, 4, 5, 6, 7, 8, 9] rfl ?_
          refine qv_iinc (L' := [(8, _), (7, _), (0, _), (1, _), (2, _), (3, _), (4, _), (5, _), (6, _)]) F _ d_M_index_60 0 rfl (ii_1 _) (by decide) rfl ?_
          refine qv_goto F d_M_index_63 rfl ?_
          exact ih
      ·
        rw [if_pos hb] at ih
        refine qv_iload F d_M_index_25 2 rfl ?_
        refine qv_iload F d_M_index_27 7 rfl ?_
        refine qv_ishl F d_M_index_29 (by decide) (by omega) ?_
        refine qv_iload_n F d_M_index_30 4 rfl ?_
        refine qv_ior F d_M_index_31 ?_
        refine qv_goto F d_M_index_32 rfl ?_
        rw [sh_or (show a < 2 ^ 3 by omega)]
        refine qv_istore (L' := [(7, _), (9, _), (8, _), (0, _), (1, _), (2, _), (3, _), (4, _), (5, _), (6, _)]) F d_M_index_58 (by decide) rfl ?_
        refine qv_sub (L' := [(8, _), (7, _), (0, _), (1, _), (2, _), (3, _), (4, _), (5, _), (6, _)]) [2, 0, 3, 4, 5, 6, 7, 8, 9] rfl ?_
        refine qv_iinc (L' := [(8, _), (7, _), (0, _), (1, _), (2, _), (3, _), (4, _), (5, _), (6, _)]) F _ d_M_index_60 0 rfl (ii_1 _) (by decide) rfl ?_
        refine qv_goto F d_M_index_63 rfl ?_
        exact ih
set_option maxRecDepth 100000 in
set_option maxHeartbeats 4000000 in
theorem c_M_fill0 (l : Launch) (X : wX) (σ : sg) (o : Nat) (hoe : σ 28 22 = o) (ho : o < 6) (hf : ∀ k, σ 46 k < 256) : mt_ l X y_M_fill w_M_fill 2 [.ref (adr X 28), .int (nI 0)] σ (ev_ (ua σ 48 (fun i => if i < rw_ 0 then fn_ 0 o (σ 46) i else 0))) := by
  refine mt_of (own := R_M) rfl pl_M (Nat.le_of_ble_eq_true rfl) ?_
  intro zp ze zs zm za zb zt zc F hr hlk
  refine qv_sub (L' := [(0, _), (1, _)]) [0, 1] rfl ?_
  refine qv_iconst F (nI 0) d_M_fill_0 ic_0 ?_
  refine qv_istore_n (L' := [(2, _), (0, _), (1, _)]) F d_M_fill_1 (by decide) rfl ?_
  have lp := lu_up (fun k (g : Nat → Nat) => vv_ zp l ze (rr_ 2) zs zm za zb zt zc (MQ zb (mq_ X (ev_ (ua σ 48 (fun i => if i < rw_ 0 then fn_ 0 o (σ 46) i else 0)))) za zs 0 0 (aw_ X)) X 6 [(2, .int (nI k)), (0, .ref (adr X 28)), (1, .int (nI 0))] (ua σ 48 g) 2 []) (fun k g => ∀ i, i < k → g i = 0) 1024 ?_ ?_ 0 (σ 48) (Nat.zero_le _) (fun i hi => by omega)
  · exact qv_st (ua_id σ 48).symm lp
  · intro g hg
    refine qv_ext 48 (z := true) (n := 1024) (g := fun _ => 0) rfl (fun k hk => by rw [ua_eq]; exact (hg k hk).symm) ?_
    rw [ua_ua]
    refine qv_iload_n F d_M_fill_2 0 rfl ?_
    refine qv_sipush F (nI 1024) d_M_fill_3 sic_1024 ?_
    refine qv_icmpge F d_M_fill_6 rfl (by decide) (by decide) (fun hb => ?_) (fun hb => ?_)
    ·
      refine qv_iconst F (nI 0) d_M_fill_22 ic_0 ?_
      refine qv_istore_n (L' := [(2, _), (0, _), (1, _)]) F d_M_fill_23 (by decide) rfl ?_
      have lpk := lu_up (fun k (g : Nat → Nat) => vv_ zp l ze (rr_ 2) zs zm za zb zt zc (MQ zb (mq_ X (ev_ (ua σ 48 (fun i => if i < rw_ 0 then fn_ 0 o (σ 46) i else 0)))) za zs 0 0 (aw_ X)) X 6 [(2, .int (nI k)), (0, .ref (adr X 28)), (1, .int (nI 0))] (ua σ 48 g) 24 []) (fun k g => dm_ 0 o (σ 46) k 0 g) 128 ?_ ?_ 0 (fun _ => 0) (Nat.zero_le _) dm_0
      · exact lpk
      · intro g hg
        rw [dm_end (w := 0) hg]
        refine qv_iload_n F d_M_fill_24 0 rfl ?_
        refine qv_iload_n F d_M_fill_25 2 rfl ?_
        refine qv_ifne F d_M_fill_26 (tgt := 35) rfl (by decide) (fun q => absurd rfl q) (fun _ => ?_)
        refine qv_sipush F (nI 128) d_M_fill_29 sic_128 ?_
        refine qv_goto F d_M_fill_32 rfl ?_
        refine qv_icmpge F d_M_fill_37 rfl (by decide) (by decide) (fun hb => ?_) (fun hb => ?_)
        ·
          exact qv_ret F hr hlk d_M_fill_160 (ev_of rfl)
        ·
          exact absurd hb (by decide)
      · intro k g hk hg ih
        refine qv_iload_n F d_M_fill_24 0 rfl ?_
        refine qv_iload_n F d_M_fill_25 2 rfl ?_
        refine qv_ifne F d_M_fill_26 (tgt := 35) rfl (by decide) (fun q => absurd rfl q) (fun _ => ?_)
        refine qv_sipush F (nI 128) d_M_fill_29 sic_128 ?_
        refine qv_goto F d_M_fill_32 rfl ?_
        refine qv_icmpge F d_M_fill_37 rfl (by omega) (by omega) (fun hb => ?_) (fun hb => ?_)
        ·
          omega
        ·
          refine qv_iconst F (nI 0) d_M_fill_40 ic_0 ?_
          refine qv_istore_n (L' := [(3, _), (2, _), (0, _), (1, _)]) F d_M_fill_41 (by decide) rfl ?_
          have lph := lu_up (fun h (g : Nat → Nat) => vv_ zp l ze (rr_ 2) zs zm za zb zt zc (MQ zb (mq_ X (ev_ (ua σ 48 (fun i => if i < rw_ 0 then fn_ 0 o (σ 46) i else 0)))) za zs 0 0 (aw_ X)) X 6 [(3, .int (nI h)), (2, .int (nI k)), (0, .ref (adr X 28)), (1, .int (nI 0))] (ua σ 48 g) 42 []) (fun h g => dm_ 0 o (σ 46) k h g) 8 ?_ ?_ 0 g (Nat.zero_le _) hg
          · exact lph
          · intro g hg
            refine qv_iload_n F d_M_fill_42 0 rfl ?_
            refine qv_bipush F (nI 8) d_M_fill_43 bic_8 ?_
            refine qv_icmpge F d_M_fill_45 rfl (by decide) (by decide) (fun hb => ?_) (fun hb => ?_)
            ·
              refine qv_sub (L' := [(2, _), (0, _), (1, _)]) [1, 2, 3] rfl ?_
              refine qv_iinc (L' := [(2, _), (0, _), (1, _)]) F _ d_M_fill_154 0 rfl (ii_1 _) (by decide) rfl ?_
              refine qv_goto F d_M_fill_157 rfl ?_
              exact ih g (dm_next hg)
            ·
              exact absurd hb (by decide)
          · intro h g hh hg ih2
            have hbn := bn_le ((σ 46 k).testBit h)
            have hv := hf k
            have hz := dm_here (w := 0) (by decide) ho hk hh hg
            have hz : g (ix_ 0 o (k / 16) (k % 16) h) = 0 := hz
            have hix : ix_ 0 o (k / 16) (k % 16) h < 1024 := Nat.lt_of_lt_of_le (ix_lt (w := 0) (by decide) ho _ _ _ (show k / 16 < 8 by omega) (show k % 16 < 16 by omega) hh) (rw_le 0)
            refine qv_iload_n F d_M_fill_42 0 rfl ?_
            refine qv_bipush F (nI 8) d_M_fill_43 bic_8 ?_
            refine qv_icmpge F d_M_fill_45 rfl (by omega) (by omega) (fun hb => ?_) (fun hb => ?_)
            ·
              omega
            ·
              refine qv_iload_n F d_M_fill_48 3 rfl ?_
              refine qv_ifne F d_M_fill_49 (tgt := 61) rfl (by decide) (fun q => absurd rfl q) (fun _ => ?_)
              refine qv_aload_n F d_M_fill_52 2 rfl ?_
              refine g_M_62 F d_M_fill_53 ?_
              refine qv_iload_n F d_M_fill_56 1 rfl ?_
              refine ld_46 F hk d_M_fill_57 ?_
              refine qv_goto F d_M_fill_58 rfl ?_
              refine qv_iload_n F d_M_fill_67 0 rfl ?_
              refine qv_ishr F d_M_fill_68 (by omega) (show σ 46 k < 2 ^ 31 by omega) ?_
              refine qv_iconst F (nI 1) d_M_fill_69 ic_1 ?_
              refine qv_iand F d_M_fill_70 ?_
              refine qv_stk (st' := [.int (nI ((σ 46 k).testBit h).toNat)]) (by rw [← bt_and]; rfl) ?_
              refine qv_iconst F (nI 1) d_M_fill_71 ic_1 ?_
              refine qv_icmpne F d_M_fill_72 rfl (by omega) (by omega) (fun hb => ?_) (fun hb => ?_)
              ·
                have hbit : (σ 46 k).testBit h = false := by
                  cases z : (σ 46 k).testBit h with
                  | false => rfl
                  | true => rw [z] at hb; exact absurd rfl hb
                refine qv_iconst F (nI 0) d_M_fill_79 ic_0 ?_
                refine qv_istore (L' := [(4, _), (3, _), (2, _), (0, _), (1, _)]) F d_M_fill_80 (by decide) rfl ?_
                refine qv_iload_n F d_M_fill_82 4 rfl ?_
                refine qv_ifne F d_M_fill_83 (tgt := 105) rfl (by decide) (fun q => absurd rfl q) (fun _ => ?_)
                refine qv_aload_n F d_M_fill_86 3 rfl ?_
                refine qv_iload_n F d_M_fill_87 2 rfl ?_
                refine qv_bipush F (nI 16) d_M_fill_88 bic_16 ?_
                refine qv_idiv F d_M_fill_90 (by omega) (by decide) (by decide) ?_
                refine qv_iload_n F d_M_fill_91 2 rfl ?_
                refine qv_bipush F (nI 16) d_M_fill_92 bic_16 ?_
                refine qv_irem F d_M_fill_94 (by omega) (by decide) (by decide) ?_
                refine qv_iload_n F d_M_fill_95 1 rfl ?_
                refine qv_iconst F (nI 3) d_M_fill_96 ic_3 ?_
                refine qv_iconst F (nI 4) d_M_fill_97 ic_4 ?_
                refine qv_iconst F (nI 3) d_M_fill_98 ic_3 ?_
                refine i_M_145i F (c_M_index l X (ua σ 48 g) 0 o (k / 16) (k % 16) h (by decide) hoe ho (by omega) (show k % 16 < 16 by omega) hh) (by decide) (Nat.le_of_ble_eq_true rfl) d_M_fill_99 ?_
                refine qv_goto F d_M_fill_102 rfl ?_
                refine qv_istore (L' := [(5, _), (4, _), (3, _), (2, _), (0, _), (1, _)]) F d_M_fill_119 (by decide) rfl ?_
                refine qv_aload_n F d_M_fill_121 4 rfl ?_
                refine g_M_68 F d_M_fill_122 ?_
                refine qv_iload F d_M_fill_125 0 rfl ?_
                refine qv_aload_n F d_M_fill_127 4 rfl ?_
                refine g_M_68 F d_M_fill_128 ?_
                refine qv_iload F d_M_fill_131 0 rfl ?_
                refine ld_48 F hix d_M_fill_133 ?_
                refine qv_stk (st' := [.int (nI 0), .int (nI (ix_ 0 o (k / 16) (k % 16) h)), .ref (adr X 48)]) (by show [Value.int (nI (g (ix_ 0 o (k / 16) (k % 16) h))), _, _] = _; rw [hz]) ?_
                refine qv_ifne F d_M_fill_134 (tgt := 142) rfl (by decide) (fun q => absurd rfl q) (fun _ => ?_)
                refine qv_iload F d_M_fill_137 1 rfl ?_
                refine qv_ifeq F d_M_fill_139 (tgt := 146) rfl (by decide) (fun _ => ?_) (fun q => absurd rfl q)
                refine qv_iconst F (nI 0) d_M_fill_146 ic_0 ?_
                refine sv_48 F hix (Or.inl rfl) d_M_fill_147 ?_
                refine qv_st (us_ua σ 48 g (ix_ 0 o (k / 16) (k % 16) h) 0) ?_
                refine qv_sub (L' := [(3, _), (2, _), (0, _), (1, _)]) [2, 3, 4, 5] rfl ?_
                refine qv_iinc (L' := [(3, _), (2, _), (0, _), (1, _)]) F _ d_M_fill_148 0 rfl (ii_1 _) (by decide) rfl ?_
                refine qv_goto F d_M_fill_151 rfl ?_
                have q := dm_up (w := 0) (by decide) ho hk hh hg
                rw [hbit] at q
                exact ih2 _ q
              ·
                have hbit : (σ 46 k).testBit h = true := by
                  cases z : (σ 46 k).testBit h with
                  | true => rfl
                  | false => rw [z] at hb; exact absurd hb (by decide)
                refine qv_iconst F (nI 1) d_M_fill_75 ic_1 ?_
                refine qv_goto F d_M_fill_76 rfl ?_
                refine qv_istore (L' := [(4, _), (3, _), (2, _), (0, _), (1, _)]) F d_M_fill_80 (by decide) rfl ?_
                refine qv_iload_n F d_M_fill_82 4 rfl ?_
                refine qv_ifne F d_M_fill_83 (tgt := 105) rfl (by decide) (fun q => absurd rfl q) (fun _ => ?_)
                refine qv_aload_n F d_M_fill_86 3 rfl ?_
                refine qv_iload_n F d_M_fill_87 2 rfl ?_
                refine qv_bipush F (nI 16) d_M_fill_88 bic_16 ?_
                refine qv_idiv F d_M_fill_90 (by omega) (by decide) (by decide) ?_
                refine qv_iload_n F d_M_fill_91 2 rfl ?_
                refine qv_bipush F (nI 16) d_M_fill_92 bic_16 ?_
                refine qv_irem F d_M_fill_94 (by omega) (by decide) (by decide) ?_
                refine qv_iload_n F d_M_fill_95 1 rfl ?_
                refine qv_iconst F (nI 3) d_M_fill_96 ic_3 ?_
                refine qv_iconst F (nI 4) d_M_fill_97 ic_4 ?_
                refine qv_iconst F (nI 3) d_M_fill_98 ic_3 ?_
                refine i_M_145i F (c_M_index l X (ua σ 48 g) 0 o (k / 16) (k % 16) h (by decide) hoe ho (by omega) (show k % 16 < 16 by omega) hh) (by decide) (Nat.le_of_ble_eq_true rfl) d_M_fill_99 ?_
                refine qv_goto F d_M_fill_102 rfl ?_
                refine qv_istore (L' := [(5, _), (4, _), (3, _), (2, _), (0, _), (1, _)]) F d_M_fill_119 (by decide) rfl ?_
                refine qv_aload_n F d_M_fill_121 4 rfl ?_
                refine g_M_68 F d_M_fill_122 ?_
                refine qv_iload F d_M_fill_125 0 rfl ?_
                refine qv_aload_n F d_M_fill_127 4 rfl ?_
                refine g_M_68 F d_M_fill_128 ?_
                refine qv_iload F d_M_fill_131 0 rfl ?_
                refine ld_48 F hix d_M_fill_133 ?_
                refine qv_stk (st' := [.int (nI 0), .int (nI (ix_ 0 o (k / 16) (k % 16) h)), .ref (adr X 48)]) (by show [Value.int (nI (g (ix_ 0 o (k / 16) (k % 16) h))), _, _] = _; rw [hz]) ?_
                refine qv_ifne F d_M_fill_134 (tgt := 142) rfl (by decide) (fun q => absurd rfl q) (fun _ => ?_)
                refine qv_iload F d_M_fill_137 1 rfl ?_
                refine qv_ifeq F d_M_fill_139 (tgt := 146) rfl (by decide) (fun q => absurd q (by decide)) (fun _ => ?_)
                refine qv_iconst F (nI 1) d_M_fill_142 ic_1 ?_
                refine qv_goto F d_M_fill_143 rfl ?_
                refine sv_48 F hix (Or.inr rfl) d_M_fill_147 ?_
                refine qv_st (us_ua σ 48 g (ix_ 0 o (k / 16) (k % 16) h) 1) ?_
                refine qv_sub (L' := [(3, _), (2, _), (0, _), (1, _)]) [2, 3, 4, 5] rfl ?_
                refine qv_iinc (L' := [(3, _), (2, _), (0, _), (1, _)]) F _ d_M_fill_148 0 rfl (ii_1 _) (by decide) rfl ?_
                refine qv_goto F d_M_fill_151 rfl ?_
                have q := dm_up (w := 0) (by decide) ho hk hh hg
                rw [hbit] at q
                exact ih2 _ q
    ·
      exact absurd hb (by decide)
  · intro k g hk hg ih
    refine qv_iload_n F d_M_fill_2 0 rfl ?_
    refine qv_sipush F (nI 1024) d_M_fill_3 sic_1024 ?_
    refine qv_icmpge F d_M_fill_6 rfl (by omega) (by omega) (fun hb => ?_) (fun hb => ?_)
    ·
      omega
    ·
      refine qv_aload_n F d_M_fill_9 1 rfl ?_
      refine g_M_68 F d_M_fill_10 ?_
      refine qv_iload_n F d_M_fill_13 0 rfl ?_
      refine qv_iconst F (nI 0) d_M_fill_14 ic_0 ?_
      refine sv_48 F hk (Or.inl rfl) d_M_fill_15 ?_
      refine qv_st (us_ua σ 48 g k 0) ?_
      refine qv_iinc (L' := [(2, _), (0, _), (1, _)]) F _ d_M_fill_16 0 rfl (ii_1 _) (by decide) rfl ?_
      refine qv_goto F d_M_fill_19 rfl ?_
      refine ih _ (fun i hi => ?_)
      by_cases e : i = k
      · subst e; exact up_eq _ _ _
      · rw [up_ne e]; exact hg i (by omega)
set_option maxRecDepth 100000 in
set_option maxHeartbeats 4000000 in
theorem c_M_fill1 (l : Launch) (X : wX) (σ : sg) (o : Nat) (hoe : σ 28 22 = o) (ho : o < 6) (hf : ∀ k, σ 47 k < 256) : mt_ l X y_M_fill w_M_fill 2 [.ref (adr X 28), .int (nI 1)] σ (ev_ (ua σ 48 (fun i => if i < rw_ 1 then fn_ 1 o (σ 47) i else 0))) := by
  refine mt_of (own := R_M) rfl pl_M (Nat.le_of_ble_eq_true rfl) ?_
  intro zp ze zs zm za zb zt zc F hr hlk
  refine qv_sub (L' := [(0, _), (1, _)]) [0, 1] rfl ?_
  refine qv_iconst F (nI 0) d_M_fill_0 ic_0 ?_
  refine qv_istore_n (L' := [(2, _), (0, _), (1, _)]) F d_M_fill_1 (by decide) rfl ?_
  have lp := lu_up (fun k (g : Nat → Nat) => vv_ zp l ze (rr_ 2) zs zm za zb zt zc (MQ zb (mq_ X (ev_ (ua σ 48 (fun i => if i < rw_ 1 then fn_ 1 o (σ 47) i else 0)))) za zs 0 0 (aw_ X)) X 6 [(2, .int (nI k)), (0, .ref (adr X 28)), (1, .int (nI 1))] (ua σ 48 g) 2 []) (fun k g => ∀ i, i < k → g i = 0) 1024 ?_ ?_ 0 (σ 48) (Nat.zero_le _) (fun i hi => by omega)
  · exact qv_st (ua_id σ 48).symm lp
  · intro g hg
    refine qv_ext 48 (z := true) (n := 1024) (g := fun _ => 0) rfl (fun k hk => by rw [ua_eq]; exact (hg k hk).symm) ?_
    rw [ua_ua]
    refine qv_iload_n F d_M_fill_2 0 rfl ?_
    refine qv_sipush F (nI 1024) d_M_fill_3 sic_1024 ?_
    refine qv_icmpge F d_M_fill_6 rfl (by decide) (by decide) (fun hb => ?_) (fun hb => ?_)
    ·
      refine qv_iconst F (nI 0) d_M_fill_22 ic_0 ?_
      refine qv_istore_n (L' := [(2, _), (0, _), (1, _)]) F d_M_fill_23 (by decide) rfl ?_
      have lpk := lu_up (fun k (g : Nat → Nat) => vv_ zp l ze (rr_ 2) zs zm za zb zt zc (MQ zb (mq_ X (ev_ (ua σ 48 (fun i => if i < rw_ 1 then fn_ 1 o (σ 47) i else 0)))) za zs 0 0 (aw_ X)) X 6 [(2, .int (nI k)), (0, .ref (adr X 28)), (1, .int (nI 1))] (ua σ 48 g) 24 []) (fun k g => dm_ 1 o (σ 47) k 0 g) 16 ?_ ?_ 0 (fun _ => 0) (Nat.zero_le _) dm_0
      · exact lpk
      · intro g hg
        rw [dm_end (w := 1) hg]
        refine qv_iload_n F d_M_fill_24 0 rfl ?_
        refine qv_iload_n F d_M_fill_25 2 rfl ?_
        refine qv_ifne F d_M_fill_26 (tgt := 35) rfl (by decide) (fun _ => ?_) (fun q => absurd q (by decide))
        refine qv_bipush F (nI 16) d_M_fill_35 bic_16 ?_
        refine qv_icmpge F d_M_fill_37 rfl (by decide) (by decide) (fun hb => ?_) (fun hb => ?_)
        ·
          exact qv_ret F hr hlk d_M_fill_160 (ev_of rfl)
        ·
          exact absurd hb (by decide)
      · intro k g hk hg ih
        refine qv_iload_n F d_M_fill_24 0 rfl ?_
        refine qv_iload_n F d_M_fill_25 2 rfl ?_
        refine qv_ifne F d_M_fill_26 (tgt := 35) rfl (by decide) (fun _ => ?_) (fun q => absurd q (by decide))
        refine qv_bipush F (nI 16) d_M_fill_35 bic_16 ?_
        refine qv_icmpge F d_M_fill_37 rfl (by omega) (by omega) (fun hb => ?_) (fun hb => ?_)
        ·
          omega
        ·
          refine qv_iconst F (nI 0) d_M_fill_40 ic_0 ?_
          refine qv_istore_n (L' := [(3, _), (2, _), (0, _), (1, _)]) F d_M_fill_41 (by decide) rfl ?_
          have lph := lu_up (fun h (g : Nat → Nat) => vv_ zp l ze (rr_ 2) zs zm za zb zt zc (MQ zb (mq_ X (ev_ (ua σ 48 (fun i => if i < rw_ 1 then fn_ 1 o (σ 47) i else 0)))) za zs 0 0 (aw_ X)) X 6 [(3, .int (nI h)), (2, .int (nI k)), (0, .ref (adr X 28)), (1, .int (nI 1))] (ua σ 48 g) 42 []) (fun h g => dm_ 1 o (σ 47) k h g) 8 ?_ ?_ 0 g (Nat.zero_le _) hg
          · exact lph
          · intro g hg
            refine qv_iload_n F d_M_fill_42 0 rfl ?_
            refine qv_bipush F (nI 8) d_M_fill_43 bic_8 ?_
            refine qv_icmpge F d_M_fill_45 rfl (by decide) (by decide) (fun hb => ?_) (fun hb => ?_)
            ·
              refine qv_sub (L' := [(2, _), (0, _), (1, _)]) [1, 2, 3] rfl ?_
              refine qv_iinc (L' := [(2, _), (0, _), (1, _)]) F _ d_M_fill_154 0 rfl (ii_1 _) (by decide) rfl ?_
              refine qv_goto F d_M_fill_157 rfl ?_
              exact ih g (dm_next hg)
            ·
              exact absurd hb (by decide)
          · intro h g hh hg ih2
            have hbn := bn_le ((σ 47 k).testBit h)
            have hv := hf k
            have hz := dm_here (w := 1) (by decide) ho hk hh hg
            have hz : g (ix_ 1 o (k / 2) (k % 2) h) = 0 := hz
            have hix : ix_ 1 o (k / 2) (k % 2) h < 1024 := Nat.lt_of_lt_of_le (ix_lt (w := 1) (by decide) ho _ _ _ (show k / 2 < 8 by omega) (show k % 2 < 2 by omega) hh) (rw_le 1)
            refine qv_iload_n F d_M_fill_42 0 rfl ?_
            refine qv_bipush F (nI 8) d_M_fill_43 bic_8 ?_
            refine qv_icmpge F d_M_fill_45 rfl (by omega) (by omega) (fun hb => ?_) (fun hb => ?_)
            ·
              omega
            ·
              refine qv_iload_n F d_M_fill_48 3 rfl ?_
              refine qv_ifne F d_M_fill_49 (tgt := 61) rfl (by decide) (fun _ => ?_) (fun q => absurd q (by decide))
              refine qv_aload_n F d_M_fill_61 2 rfl ?_
              refine g_M_65 F d_M_fill_62 ?_
              refine qv_iload_n F d_M_fill_65 1 rfl ?_
              refine ld_47 F hk d_M_fill_66 ?_
              refine qv_iload_n F d_M_fill_67 0 rfl ?_
              refine qv_ishr F d_M_fill_68 (by omega) (show σ 47 k < 2 ^ 31 by omega) ?_
              refine qv_iconst F (nI 1) d_M_fill_69 ic_1 ?_
              refine qv_iand F d_M_fill_70 ?_
              refine qv_stk (st' := [.int (nI ((σ 47 k).testBit h).toNat)]) (by rw [← bt_and]; rfl) ?_
              refine qv_iconst F (nI 1) d_M_fill_71 ic_1 ?_
              refine qv_icmpne F d_M_fill_72 rfl (by omega) (by omega) (fun hb => ?_) (fun hb => ?_)
              ·
                have hbit : (σ 47 k).testBit h = false := by
                  cases z : (σ 47 k).testBit h with
                  | false => rfl
                  | true => rw [z] at hb; exact absurd rfl hb
                refine qv_iconst F (nI 0) d_M_fill_79 ic_0 ?_
                refine qv_istore (L' := [(4, _), (3, _), (2, _), (0, _), (1, _)]) F d_M_fill_80 (by decide) rfl ?_
                refine qv_iload_n F d_M_fill_82 4 rfl ?_
                refine qv_ifne F d_M_fill_83 (tgt := 105) rfl (by decide) (fun _ => ?_) (fun q => absurd q (by decide))
                refine qv_aload_n F d_M_fill_105 3 rfl ?_
                refine qv_iload_n F d_M_fill_106 2 rfl ?_
                refine qv_iconst F (nI 2) d_M_fill_107 ic_2 ?_
                refine qv_idiv F d_M_fill_108 (by omega) (by decide) (by decide) ?_
                refine qv_iload_n F d_M_fill_109 2 rfl ?_
                refine qv_iconst F (nI 2) d_M_fill_110 ic_2 ?_
                refine qv_irem F d_M_fill_111 (by omega) (by decide) (by decide) ?_
                refine qv_iload_n F d_M_fill_112 1 rfl ?_
                refine qv_iconst F (nI 3) d_M_fill_113 ic_3 ?_
                refine qv_iconst F (nI 1) d_M_fill_114 ic_1 ?_
                refine qv_iconst F (nI 3) d_M_fill_115 ic_3 ?_
                refine i_M_145i F (c_M_index l X (ua σ 48 g) 1 o (k / 2) (k % 2) h (by decide) hoe ho (by omega) (show k % 2 < 2 by omega) hh) (by decide) (Nat.le_of_ble_eq_true rfl) d_M_fill_116 ?_
                refine qv_istore (L' := [(5, _), (4, _), (3, _), (2, _), (0, _), (1, _)]) F d_M_fill_119 (by decide) rfl ?_
                refine qv_aload_n F d_M_fill_121 4 rfl ?_
                refine g_M_68 F d_M_fill_122 ?_
                refine qv_iload F d_M_fill_125 0 rfl ?_
                refine qv_aload_n F d_M_fill_127 4 rfl ?_
                refine g_M_68 F d_M_fill_128 ?_
                refine qv_iload F d_M_fill_131 0 rfl ?_
                refine ld_48 F hix d_M_fill_133 ?_
                refine qv_stk (st' := [.int (nI 0), .int (nI (ix_ 1 o (k / 2) (k % 2) h)), .ref (adr X 48)]) (by show [Value.int (nI (g (ix_ 1 o (k / 2) (k % 2) h))), _, _] = _; rw [hz]) ?_
                refine qv_ifne F d_M_fill_134 (tgt := 142) rfl (by decide) (fun q => absurd rfl q) (fun _ => ?_)
                refine qv_iload F d_M_fill_137 1 rfl ?_
                refine qv_ifeq F d_M_fill_139 (tgt := 146) rfl (by decide) (fun _ => ?_) (fun q => absurd rfl q)
                refine qv_iconst F (nI 0) d_M_fill_146 ic_0 ?_
                refine sv_48 F hix (Or.inl rfl) d_M_fill_147 ?_
                refine qv_st (us_ua σ 48 g (ix_ 1 o (k / 2) (k % 2) h) 0) ?_
                refine qv_sub (L' := [(3, _), (2, _), (0, _), (1, _)]) [2, 3, 4, 5] rfl ?_
                refine qv_iinc (L' := [(3, _), (2, _), (0, _), (1, _)]) F _ d_M_fill_148 0 rfl (ii_1 _) (by decide) rfl ?_
                refine qv_goto F d_M_fill_151 rfl ?_
                have q := dm_up (w := 1) (by decide) ho hk hh hg
                rw [hbit] at q
                exact ih2 _ q
              ·
                have hbit : (σ 47 k).testBit h = true := by
                  cases z : (σ 47 k).testBit h with
                  | true => rfl
                  | false => rw [z] at hb; exact absurd hb (by decide)
                refine qv_iconst F (nI 1) d_M_fill_75 ic_1 ?_
                refine qv_goto F d_M_fill_76 rfl ?_
                refine qv_istore (L' := [(4, _), (3, _), (2, _), (0, _), (1, _)]) F d_M_fill_80 (by decide) rfl ?_
                refine qv_iload_n F d_M_fill_82 4 rfl ?_
                refine qv_ifne F d_M_fill_83 (tgt := 105) rfl (by decide) (fun _ => ?_) (fun q => absurd q (by decide))
                refine qv_aload_n F d_M_fill_105 3 rfl ?_
                refine qv_iload_n F d_M_fill_106 2 rfl ?_
                refine qv_iconst F (nI 2) d_M_fill_107 ic_2 ?_
                refine qv_idiv F d_M_fill_108 (by omega) (by decide) (by decide) ?_
                refine qv_iload_n F d_M_fill_109 2 rfl ?_
                refine qv_iconst F (nI 2) d_M_fill_110 ic_2 ?_
                refine qv_irem F d_M_fill_111 (by omega) (by decide) (by decide) ?_
                refine qv_iload_n F d_M_fill_112 1 rfl ?_
                refine qv_iconst F (nI 3) d_M_fill_113 ic_3 ?_
                refine qv_iconst F (nI 1) d_M_fill_114 ic_1 ?_
                refine qv_iconst F (nI 3) d_M_fill_115 ic_3 ?_
                refine i_M_145i F (c_M_index l X (ua σ 48 g) 1 o (k / 2) (k % 2) h (by decide) hoe ho (by omega) (show k % 2 < 2 by omega) hh) (by decide) (Nat.le_of_ble_eq_true rfl) d_M_fill_116 ?_
                refine qv_istore (L' := [(5, _), (4, _), (3, _), (2, _), (0, _), (1, _)]) F d_M_fill_119 (by decide) rfl ?_
                refine qv_aload_n F d_M_fill_121 4 rfl ?_
                refine g_M_68 F d_M_fill_122 ?_
                refine qv_iload F d_M_fill_125 0 rfl ?_
                refine qv_aload_n F d_M_fill_127 4 rfl ?_
                refine g_M_68 F d_M_fill_128 ?_
                refine qv_iload F d_M_fill_131 0 rfl ?_
                refine ld_48 F hix d_M_fill_133 ?_
                refine qv_stk (st' := [.int (nI 0), .int (nI (ix_ 1 o (k / 2) (k % 2) h)), .ref (adr X 48)]) (by show [Value.int (nI (g (ix_ 1 o (k / 2) (k % 2) h))), _, _] = _; rw [hz]) ?_
                refine qv_ifne F d_M_fill_134 (tgt := 142) rfl (by decide) (fun q => absurd rfl q) (fun _ => ?_)
                refine qv_iload F d_M_fill_137 1 rfl ?_
                refine qv_ifeq F d_M_fill_139 (tgt := 146) rfl (by decide) (fun q => absurd q (by decide)) (fun _ => ?_)
                refine qv_iconst F (nI 1) d_M_fill_142 ic_1 ?_
                refine qv_goto F d_M_fill_143 rfl ?_
                refine sv_48 F hix (Or.inr rfl) d_M_fill_147 ?_
                refine qv_st (us_ua σ 48 g (ix_ 1 o (k / 2) (k % 2) h) 1) ?_
                refine qv_sub (L' := [(3, _), (2, _), (0, _), (1, _)]) [2, 3, 4, 5] rfl ?_
                refine qv_iinc (L' := [(3, _), (2, _), (0, _), (1, _)]) F _ d_M_fill_148 0 rfl (ii_1 _) (by decide) rfl ?_
                refine qv_goto F d_M_fill_151 rfl ?_
                have q := dm_up (w := 1) (by decide) ho hk hh hg
                rw [hbit] at q
                exact ih2 _ q
    ·
      exact absurd hb (by decide)
  · intro k g hk hg ih
    refine qv_iload_n F d_M_fill_2 0 rfl ?_
    refine qv_sipush F (nI 1024) d_M_fill_3 sic_1024 ?_
    refine qv_icmpge F d_M_fill_6 rfl (by omega) (by omega) (fun hb => ?_) (fun hb => ?_)
    ·
      omega
    ·
      refine qv_aload_n F d_M_fill_9 1 rfl ?_
      refine g_M_68 F d_M_fill_10 ?_
      refine qv_iload_n F d_M_fill_13 0 rfl ?_
      refine qv_iconst F (nI 0) d_M_fill_14 ic_0 ?_
      refine sv_48 F hk (Or.inl rfl) d_M_fill_15 ?_
      refine qv_st (us_ua σ 48 g k 0) ?_
      refine qv_iinc (L' := [(2, _), (0, _), (1, _)]) F _ d_M_fill_16 0 rfl (ii_1 _) (by decide) rfl ?_
      refine qv_goto F d_M_fill_19 rfl ?_
      refine ih _ (fun i hi => ?_)
      by_cases e : i = k
      · subst e; exact up_eq _ _ _
      · rw [up_ne e]; exact hg i (by omega)
set_option maxRecDepth 100000 in
set_option maxHeartbeats 4000000 in
theorem c_M_same (l : Launch) (X : wX) (σ : sg) (a b n : Nat) (ha : a + n ≤ 1024) (hb0 : b + n ≤ 1024) (h48 : ∀ i, σ 48 i < 2) : mt_ l X y_M_same w_M_same 0 [.ref (adr X 28), .int (nI a), .int (nI b), .int (nI n)] σ (ei_ (nI (sa_ (σ 48) a b n).toNat) σ) := by
  refine mt_of (own := R_M) rfl pl_M (Nat.le_of_ble_eq_true rfl) ?_
  intro zp ze zs zm za zb zt zc F hr hlk
  refine qv_sub (L' := [(0, _), (1, _), (2, _), (3, _)]) [0, 1, 2, 3] rfl ?_
  refine qv_iconst F (nI 0) d_M_same_0 ic_0 ?_
  refine qv_istore (L' := [(4, _), (0, _), (1, _), (2, _), (3, _)]) F d_M_same_1 (by decide) rfl ?_
  have lp := lu_up (fun i (_ : Unit) => vv_ zp l ze (rr_ 0) zs zm za zb zt zc (MQ zb (mq_ X (ei_ (nI (sa_ (σ 48) a b n).toNat) σ)) za zs 0 0 (aw_ X)) X 5 [(4, .int (nI i)), (0, .ref (adr X 28)), (1, .int (nI a)), (2, .int (nI b)), (3, .int (nI n))] σ 3 []) (fun i _ => sa_ (σ 48) a b i = true) n ?_ ?_ 0 () (Nat.zero_le _) rfl
  · exact lp
  · intro _ hI
    refine qv_iload F d_M_same_3 0 rfl ?_
    refine qv_iload_n F d_M_same_5 4 rfl ?_
    refine qv_icmpge F d_M_same_6 rfl (by omega) (by omega) (fun hb => ?_) (fun hb => ?_)
    ·
      refine qv_iload F d_M_same_36 0 rfl ?_
      refine qv_iload_n F d_M_same_38 4 rfl ?_
      refine qv_icmpne F d_M_same_39 rfl (by omega) (by omega) (fun hb => ?_) (fun hb => ?_)
      ·
        exact absurd rfl hb
      ·
        refine qv_iconst F (nI 1) d_M_same_42 ic_1 ?_
        refine qv_goto F d_M_same_43 rfl ?_
        exact qv_zret F hr hlk (by first | exact Or.inl rfl | exact Or.inr rfl | exact bz_01 _) d_M_same_47 (ei_of (by rw [hI]; rfl) rfl)
    ·
      omega
  · intro i _ hi hI ih
    have v1 := h48 (a + i)
    have v2 := h48 (b + i)
    refine qv_iload F d_M_same_3 0 rfl ?_
    refine qv_iload_n F d_M_same_5 4 rfl ?_
    refine qv_icmpge F d_M_same_6 rfl (by omega) (by omega) (fun hb => ?_) (fun hb => ?_)
    ·
      omega
    ·
      refine qv_aload_n F d_M_same_9 1 rfl ?_
      refine g_M_68 F d_M_same_10 ?_
      refine qv_iload_n F d_M_same_13 2 rfl ?_
      refine qv_iload F d_M_same_14 0 rfl ?_
      refine qv_iadd F d_M_same_16 ?_
      refine ld_48 F (by omega) d_M_same_17 ?_
      refine qv_aload_n F d_M_same_18 1 rfl ?_
      refine g_M_68 F d_M_same_19 ?_
      refine qv_iload_n F d_M_same_22 3 rfl ?_
      refine qv_iload F d_M_same_23 0 rfl ?_
      refine qv_iadd F d_M_same_25 ?_
      refine ld_48 F (by omega) d_M_same_26 ?_
      refine qv_icmpne F d_M_same_27 rfl (by omega) (by omega) (fun hb => ?_) (fun hb => ?_)
      ·
        have hfal : sa_ (σ 48) a b n = false := by
          cases q : sa_ (σ 48) a b n with
          | false => rfl
          | true => exact absurd (sa_is.mp q i hi) hb
        refine qv_iload F d_M_same_36 0 rfl ?_
        refine qv_iload_n F d_M_same_38 4 rfl ?_
        refine qv_icmpne F d_M_same_39 rfl (by omega) (by omega) (fun hb => ?_) (fun hb => ?_)
        ·
          refine qv_iconst F (nI 0) d_M_same_46 ic_0 ?_
          exact qv_zret F hr hlk (by first | exact Or.inl rfl | exact Or.inr rfl | exact bz_01 _) d_M_same_47 (ei_of (by rw [hfal]; rfl) rfl)
        ·
          omega
      ·
        refine qv_iinc (L' := [(4, _), (0, _), (1, _), (2, _), (3, _)]) F _ d_M_same_30 0 rfl (ii_1 _) (by decide) rfl ?_
        refine qv_goto F d_M_same_33 rfl ?_
        refine ih () ?_
        show (sa_ (σ 48) a b i && (σ 48 (a + i) == σ 48 (b + i))) = true
        rw [hI, beq_iff_eq.mpr hb]
        rfl

