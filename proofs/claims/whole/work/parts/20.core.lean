theorem sb_cpy0' {f g : Nat → Nat} {n j : Nat} (h : j < n) : va_cpy f g 0 0 n j = f j := by
  unfold va_cpy
  rw [if_pos ⟨Nat.zero_le _, by omega⟩]
  exact congrArg f (by omega)
section CW2
variable {p : Program} {l : Launch} {e : Env} {R : Room} {s : State} {m : MethodId} {args : Array Value} {below : List Frame} {meth : Method} {c : Code} {Q : State → Prop}
variable {X : wX} {nL : Nat} {L : List (Nat × Value)} {σ : sg} {pc : Nat} {st : List Value} {cc : ByteArray} {own : String}
theorem qv_iushr (F : fx_ p s m args c cc nL own X) {x y : Int32} (hd : decode cc pc = .ok (.iushr, 1)) (k : vv_ p l e R s m args below meth c Q X nL L σ (pc + 1) (.int ((x.toUInt32 >>> (y.toUInt32 &&& Int32.toUInt32 31)).toInt32) :: st)) : vv_ p l e R s m args below meth c Q X nL L σ pc (.int y :: .int x :: st) :=
  fun H locs ls h hP hS => lv_iushr (fx_x F) (fx_b F) hd rfl (k H locs ls h hP hS)
theorem qv_iandI (F : fx_ p s m args c cc nL own X) {x y : Int32} (hd : decode cc pc = .ok (.iand, 1)) (k : vv_ p l e R s m args below meth c Q X nL L σ (pc + 1) (.int (x &&& y) :: st)) : vv_ p l e R s m args below meth c Q X nL L σ pc (.int y :: .int x :: st) :=
  fun H locs ls h hP hS => lv_iand (fx_x F) (fx_b F) hd (k H locs ls h hP hS)
theorem qv_ldcw (F : fx_ p s m args c cc nL own X) {index : Nat} (v : Int32) (hc : Cond.constant own index v ∈ ak_) (hd : decode cc pc = .ok (.ldc_w index, 3)) (k : vv_ p l e R s m args below meth c Q X nL L σ (pc + 3) (.int v :: st)) : vv_ p l e R s m args below meth c Q X nL L σ pc st :=
  fun H locs ls h hP hS => lv_ldcw (fx_x F) (fx_b F) F.1.2.2.2.1 (fx_t F hc) hd (k H locs ls h hP hS)
theorem qv_max (F : fx_ p s m args c cc nL own X) {index a b : Nat} (ha : a < 2 ^ 31) (hb : b < 2 ^ 31) (hl : Cond.methodLink own index Lib.Math.max.name ∈ ak_) (hs : Cond.static Lib.Math.max.name ∈ ak_) (hi : Cond.initialized "java/lang/Math" ∈ ak_) (hc : Cond.code Lib.Math.max.name Lib.Math.max.code 2 (some .int) ∈ ak_) (hf : 1 ≤ R.frames) (hlo : (st.map fun v => v.category).sum + 13 ≤ R.locals) (hd : decode cc pc = .ok (.invokestatic index, 3)) (k : vv_ p l e R s m args below meth c Q X nL L σ (pc + 3) (.int (nI (max a b)) :: st)) : vv_ p l e R s m args below meth c Q X nL L σ pc (.int (nI b) :: .int (nI a) :: st) := by
  intro H locs ls h hP hS
  refine va_mmax (fx_x F) (fx_b F) (F.1.2.2.1.trans h.1.symm) F.1.2.2.2.1 (fx_t F hl) (fx_t F hs) (fx_t F hi) (fx_t F hc) hf hlo (Nat.le_refl _) (Nat.le_refl _) hd ?_
  have e : (if nI a < nI b then nI b else nI a) = nI (max a b) := by
    by_cases q : a < b
    · rw [if_pos ((nI_ltI ha hb).mpr q), Nat.max_eq_right (by omega)]
    · rw [if_neg (fun z => q ((nI_ltI ha hb).mp z)), Nat.max_eq_left (by omega)]
  rw [e]
  exact k H locs ls h hP hS
/-- a whole array of ints laid over another -/
theorem qv_acopy (F : fx_ p s m args c cc nL own X) {index : Nat} (q0 q1 : Nat) {n : Nat} (hq0 : dz_[q0]? = some (.inl (false, n))) (hq1 : dz_[q1]? = some (.inl (false, n))) (hn : n < 2 ^ 31) (hl : Cond.methodLink own index arraycopyName ∈ ak_) (hna : Cond.native arraycopyName ∈ ak_) (hs : Cond.static arraycopyName ∈ ak_) (hi : Cond.initialized "java/lang/System" ∈ ak_) (hf : 1 ≤ R.frames) (hlo : (st.map fun v => v.category).sum + (nativeFrameWords "java/lang/System" "arraycopy" 5 + 11) ≤ R.locals) (hd : decode cc pc = .ok (.invokestatic index, 3)) (k : vv_ p l e R s m args below meth c Q X nL L (ua σ q1 (σ q0)) (pc + 3) st) : vv_ p l e R s m args below meth c Q X nL L σ pc (.int (nI n) :: .int (nI 0) :: .ref (adr X q1) :: .int (nI 0) :: .ref (adr X q0) :: st) := by
  intro H locs ls h hP hS
  have z0 : (nI 0).toNatClampNeg = 0 := nI_clamp (by decide)
  refine va_copyi (fx_x F) (fx_b F) (F.1.2.2.1.trans h.1.symm) F.1.2.2.2.1 (fx_t F hl) (fx_t F hna) (fx_t F hs) (fx_t F hi) F.2.1 hP (wd_D F.2.2.1) hS q0 q1 0 0 (wd_at hq0) (wd_at hq1) rfl rfl rfl (nI_pos (by decide)) (nI_pos (by decide)) (nI_pos hn) (by rw [z0, nI_clamp hn]; omega) (by rw [z0, nI_clamp hn]; omega) (fun _ _ => rfl) hf hlo hd (fun H1 locs1 hP1 _ hS1 => ?_)
  rw [z0, nI_clamp hn] at hP1
  have e : va_cpy (fun j => nI (σ q0 j)) (fun j => nI (σ q1 j)) 0 0 n = fun j => nI (va_cpy (σ q0) (σ q1) 0 0 n j) := by
    funext j
    unfold va_cpy
    by_cases q : 0 ≤ j ∧ j < 0 + n
    · rw [if_pos q, if_pos q]
    · rw [if_neg q, if_neg q]
  rw [e] at hP1
  have hP2 : va_P X.1 cl_ (wd_ X (ua σ q1 (va_cpy (σ q0) (σ q1) 0 0 n))) H1 := wd_set (X := X) (σ := σ) (k := q1) (d := .inl (false, n)) (g := va_cpy (σ q0) (σ q1) 0 0 n) hq1 ▸ hP1
  have hP3 := wd_ext (X := X) (g := σ q0) hq1 (fun j hj => by rw [ua_eq, sb_cpy0' hj]) hP2
  rw [ua_ua] at hP3
  exact k H1 locs1 ls h hP3 hS1
theorem qv_gets (F : fx_ p s m args c cc nL own X) {index : Nat} {C n d : String} {v : Value} (hZ : va_Z C n d v (aw_ X) s s.heap) (hl : Cond.fieldLink own index C n d ∈ ak_) (hd : decode cc pc = .ok (.getstatic index, 3)) (k : vv_ p l e R s m args below meth c Q X nL L σ (pc + 3) (v :: st)) : vv_ p l e R s m args below meth c Q X nL L σ pc st :=
  fun H locs ls h hP hS => va_gets (fx_x F) (fx_b F) hZ hS F.1.2.2.2.1 (fx_t F hl) (fun _ h => h) hd (k H locs ls h hP hS)
theorem qv_tald (F : fx_ p s m args c cc nL own X) {t N i : Nat} {f : Nat → Nat} (hT : va_T .int t N (fun j => .int (nI (f j))) (aw_ X) s s.heap) (hi : i < N) (hN : N < 2 ^ 31) (hd : decode cc pc = .ok (.iaload, 1)) (k : vv_ p l e R s m args below meth c Q X nL L σ (pc + 1) (.int (nI (f i)) :: st)) : vv_ p l e R s m args below meth c Q X nL L σ pc (.int (nI i) :: .ref t :: st) :=
  fun H locs ls h hP hS => va_ti (v := .int (nI (f i))) (fx_x F) (fx_b F) hT hS (vp_in_nI hi hN) (by show Value.int (nI (f (nI i).toNatClampNeg)) = _; rw [nI_clamp (by omega)]) hd (k H locs ls h hP hS)
end CW2
