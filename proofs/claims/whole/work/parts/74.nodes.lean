/-! nodes of the class -/
set_option maxRecDepth 100000 in
set_option maxHeartbeats 4000000 in
theorem c_P_nodes (l : Launch) (X : wX) (σ : sg) (x : Int32) (ho : σ 0 4 < 6) (h21 : ∀ k, σ 21 k < 256) (h22 : ∀ k, σ 22 k < 256) : mt_ l X y_P_nodes w_P_nodes 4 [.ref (adr X 0), .int x] σ (fun r τ => (wi_ x 2 = false ∧ r = some (.int (-1)) ∧ τ = σ) ∨ (∃ w, w < 2 ∧ x = nI w ∧ r = some (.int (nI (nd_ w (σ 0 4) (if w = 0 then σ 21 else σ 22)))) ∧ sc_ σ τ)) := by
  refine mt_of (own := R_P) rfl pl_P (Nat.le_of_ble_eq_true rfl) ?_
  intro zp ze zs zm za zb zt zc F hr hlk
  refine qv_sub (L' := [(0, _), (1, _)]) [0, 1] rfl ?_
  refine qv_iload_n F d_P_nodes_0 1 rfl ?_
  cases hx : wi_ x 2 with
  | false =>
    have n0 : ¬ x = nI 0 := fun z => by rw [z] at hx; exact absurd hx (by decide)
    have n1 : ¬ x = nI 1 := fun z => by rw [z] at hx; exact absurd hx (by decide)
    refine qv_lsw F d_P_nodes_1 (by decide) (off := 73) (tgt := 74) (by show Op.lookupswitch.offset [(0, 27), (1, 50)] 73 x.toInt = 73; rw [lv_osw n0 (by decide), lv_osw n1 (by decide)]; rfl) rfl ?_
    refine qv_iconst F (-1) d_P_nodes_74 ic_m1 ?_
    exact qv_iret F hr hlk d_P_nodes_75 (Or.inl ⟨rfl, rfl, rfl⟩)
  | true =>
    obtain ⟨j, hj, rfl⟩ := wi_t (by decide) hx
    rcases (by omega : j = 0 ∨ j = 1) with rfl | rfl
    · refine qv_lsw F d_P_nodes_1 (by decide) (off := 27) (tgt := 28) (by decide) rfl ?_
      refine qv_aload_n F d_P_nodes_28 0 rfl ?_
      refine g_P_26 F d_P_nodes_29 ?_
      refine qv_aload_n F d_P_nodes_32 0 rfl ?_
      refine g_P_33 F d_P_nodes_33 ?_
      refine qv_aload_n F d_P_nodes_36 0 rfl ?_
      refine g_P_37 F d_P_nodes_37 ?_
      refine i_P_103v F (c_T_drawPoints l X σ (σ 0 4) ho h21) (by decide) (Nat.le_of_ble_eq_true rfl) d_P_nodes_40 ?_
      refine qv_aload_n F d_P_nodes_43 0 rfl ?_
      refine g_P_33 F d_P_nodes_44 ?_
      refine i_P_107p F (c_D_countNodes l X (dg_ σ 0 (σ 0 4) (fun k => if k < rw_ 0 then fn_ 0 (σ 0 4) (σ 21) k else σ 25 k)) 10 (by decide) rfl (fun k hk => by show (if k < rw_ 0 then fn_ 0 (σ 0 4) (σ 21) k else σ 25 k) < 2; rw [if_pos (show k < rw_ 0 from hk)]; exact fn_2 _ _ _ _)) (by decide) (Nat.le_of_ble_eq_true rfl) d_P_nodes_47 (fun r τ hp => ?_)
      obtain ⟨Z, O, G, m, rfl, rfl⟩ := hp
      refine qv_stk (st' := .int (nI (nd_ 0 (σ 0 4) (σ 21))) :: []) (by rw [← nd_of 0 (σ 0 4) (σ 21) (σ 25) rfl]; rfl) ?_
      exact qv_iret F hr hlk d_P_nodes_50 (Or.inr ⟨0, by decide, rfl, rfl, sc_jt _ _ _ _ _ _ _ _⟩)
    · refine qv_lsw F d_P_nodes_1 (by decide) (off := 50) (tgt := 51) (by decide) rfl ?_
      refine qv_aload_n F d_P_nodes_51 0 rfl ?_
      refine g_P_26 F d_P_nodes_52 ?_
      refine qv_aload_n F d_P_nodes_55 0 rfl ?_
      refine g_P_33 F d_P_nodes_56 ?_
      refine qv_aload_n F d_P_nodes_59 0 rfl ?_
      refine g_P_37 F d_P_nodes_60 ?_
      refine i_P_110v F (c_T_drawHolds l X σ (σ 0 4) ho h22) (by decide) (Nat.le_of_ble_eq_true rfl) d_P_nodes_63 ?_
      refine qv_aload_n F d_P_nodes_66 0 rfl ?_
      refine g_P_33 F d_P_nodes_67 ?_
      refine i_P_107p F (c_D_countNodes l X (dg_ σ 1 (σ 0 4) (fun k => if k < rw_ 1 then fn_ 1 (σ 0 4) (σ 22) k else σ 25 k)) 7 (by decide) rfl (fun k hk => by show (if k < rw_ 1 then fn_ 1 (σ 0 4) (σ 22) k else σ 25 k) < 2; rw [if_pos (show k < rw_ 1 from hk)]; exact fn_2 _ _ _ _)) (by decide) (Nat.le_of_ble_eq_true rfl) d_P_nodes_70 (fun r τ hp => ?_)
      obtain ⟨Z, O, G, m, rfl, rfl⟩ := hp
      refine qv_stk (st' := .int (nI (nd_ 1 (σ 0 4) (σ 22))) :: []) (by rw [← nd_of 1 (σ 0 4) (σ 22) (σ 25) rfl]; rfl) ?_
      exact qv_iret F hr hlk d_P_nodes_73 (Or.inr ⟨1, by decide, rfl, rfl, sc_jt _ _ _ _ _ _ _ _⟩)

