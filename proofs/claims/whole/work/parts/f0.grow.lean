/-! constructors: a world that grows -/
def ty2_ (cI cZ : ClassId) : List (ClassId × FieldType) := [(cI, .int), (cZ, .boolean)]
def kk_ (D : va_G) (cI cZ : ClassId) (U : State) : Prop := va_K D cl_ (ty2_ cI cZ) U ∧ ∀ w ∈ nw_, va_Nw w U
def pre_ (D : va_G) (cI cZ : ClassId) (sz : Nat) (w : va_W) (as : List Value) : Array Value → State → Prop := va_Pc as (fun U => U.heap.size = sz ∧ va_P D cl_ w U.heap ∧ kk_ D cI cZ U ∧ va_D (fun _ => True) w)
def post_ (D : va_G) (sz : Nat) (w : va_W) (wf : (Nat → Nat) → va_W) : Array Value → State → Outcome → State → Prop := va_Qv (fun _ : Nat → Nat => True) (fun f t => va_P D cl_ (wf f) t.heap ∧ va_D (va_A w sz) (wf f)) (va_A w sz)
abbrev rc_ (d lo mc ms : Nat) : Room := { frames := d, cells := mc, slots := ms, locals := lo }
/-- a constructor's contract: from the cells w to the cells wf -/
def cc_ (l : Launch) (y : MethodName) (ws : List Cond) (d lo mc ms : Nat) (D : va_G) (cI cZ : ClassId) (as : List Value) (w : va_W) (wf : (Nat → Nat) → va_W) : Prop :=
  ∀ sz : Nat, Met l y ws (rc_ d lo mc ms) (pre_ D cI cZ sz w as) (post_ D sz w wf) mc ms (va_A w sz)
theorem kk_moved {D : va_G} {cI cZ : ClassId} {s U : State} (hW : s.WarmedH U.vm) (h : kk_ D cI cZ s) : kk_ D cI cZ U := ⟨va_K.moved hW.alike h.1, fun w hw => nw_warm hW (nw_is w hw) (h.2 w hw)⟩
theorem pre_bl {D : va_G} {cI cZ : ClassId} {sz : Nat} {w : va_W} {as : List Value} : FrameBlind (pre_ D cI cZ sz w as) := by
  intro a U g mk q
  obtain ⟨q0, q1, qP, ⟨qK, qN⟩, qD⟩ := q
  exact ⟨q0, q1, qP, ⟨va_K.moved (u := U) (U := U.calling g mk a) (Vm.Alike.refl U.vm) qK, fun w hw => nw_same (s := U) (U := U.calling g mk a) rfl (nw_is w hw) (qN w hw)⟩, qD⟩
theorem ak_ai : Cond.arrayClass .int ∈ ak_ := by decide +kernel
theorem ak_az : Cond.arrayClass .boolean ∈ ak_ := by decide +kernel
theorem ak_oi : Cond.instanceMethod objectInit ∈ ak_ := by decide +kernel
theorem ak_oc : Cond.code objectInit ⟨#[0xb1]⟩ 1 none ∈ ak_ := by decide +kernel
theorem newI_ (N : Nat) (cA : ClassId) : vp_cell cA (N, .inl (fun _ => nI 0)) = arrV cA N (fun _ => defaultValue .int) := by
  rw [vp_cell_i, nI_0]; rfl
theorem newZ_ (N : Nat) (cA : ClassId) : vp_cell cA (N, .inl (fun _ => nI 0)) = arrV cA N (fun _ => defaultValue .boolean) := by
  rw [vp_cell_i, nI_0]; rfl
section CN
variable {p : Program} {l : Launch} {e : Env} {R : Room} {s : State} {m : MethodId} {args : Array Value} {below : List Frame} {meth : Method} {c : Code} {Q : State → Prop}
variable {H : Heap} {locs : List Loc} {ls : Array Slot} {cells slots : Nat}
variable {D : va_G} {cI cZ : ClassId} {A : Nat → Prop} {nL : Nat} {ws : va_W} {pc : Nat} {rest : List Value} {cc : ByteArray} {own : String}
theorem ca_newi (S : CallFix p m c cc nL s args ak_ own) (hk : kk_ D cI cZ s) (hP : va_P D cl_ ws H) (hD : va_D A ws) (hS : va_S A s.heap H locs) (hA : ∀ q, s.heap.size ≤ q → A q) {N : Nat} (hN : N ≤ 1024) (hcells : cells + 1 ≤ R.cells) (hslots : slots + N ≤ R.slots) (hd : decode cc pc = .ok (.newarray .int, 2))
    (kk : ∀ (q : Nat) (H1 : Heap), va_P D cl_ (ws ++ [(q, .inl (cI, N, .inl (fun _ => nI 0)))]) H1 → va_D A (ws ++ [(q, .inl (cI, N, .inl (fun _ => nI 0)))]) → va_S A s.heap H1 locs → W p l e R s m args below meth c H1 locs (cells + 1) (slots + N) Q (F0 m (pc + 2) ls (.ref q :: rest))) : W p l e R s m args below meth c H locs cells slots Q (F0 m pc ls (.int (nI N) :: rest)) := by
  refine va_newa S.1 S.2.1 (ty := .int) (atype := .int) (S.2.2.2.2 _ ak_ai) rfl hk.1 hP hD hS hA (N' := N) (a0 := (N, .inl (fun _ => nI 0))) (newI_ N) (nI_pos (by omega)) (nI_clamp (by omega)) (by show N * 4 ≤ _; omega) hcells hslots hd (fun q cA H1 hK1 hP1 hD1 hS1 => ?_)
  have h1 : s.vm.findClass ("[" ++ FieldType.int.toString) = some cA := (hK1.2 2 (cA, .int) rfl).2
  have h2 : s.vm.findClass ("[" ++ FieldType.int.toString) = some cI := (hk.1.2 0 (cI, .int) rfl).2
  obtain rfl : cA = cI := Option.some.inj (h1.symm.trans h2)
  exact kk q H1 hP1 hD1 hS1
theorem ca_newz (S : CallFix p m c cc nL s args ak_ own) (hk : kk_ D cI cZ s) (hP : va_P D cl_ ws H) (hD : va_D A ws) (hS : va_S A s.heap H locs) (hA : ∀ q, s.heap.size ≤ q → A q) {N : Nat} (hN : N ≤ 1024) (hcells : cells + 1 ≤ R.cells) (hslots : slots + N ≤ R.slots) (hd : decode cc pc = .ok (.newarray .boolean, 2))
    (kk : ∀ (q : Nat) (H1 : Heap), va_P D cl_ (ws ++ [(q, .inl (cZ, N, .inl (fun _ => nI 0)))]) H1 → va_D A (ws ++ [(q, .inl (cZ, N, .inl (fun _ => nI 0)))]) → va_S A s.heap H1 locs → W p l e R s m args below meth c H1 locs (cells + 1) (slots + N) Q (F0 m (pc + 2) ls (.ref q :: rest))) : W p l e R s m args below meth c H locs cells slots Q (F0 m pc ls (.int (nI N) :: rest)) := by
  refine va_newa S.1 S.2.1 (ty := .boolean) (atype := .boolean) (S.2.2.2.2 _ ak_az) rfl hk.1 hP hD hS hA (N' := N) (a0 := (N, .inl (fun _ => nI 0))) (newZ_ N) (nI_pos (by omega)) (nI_clamp (by omega)) (by show N * 1 ≤ _; omega) hcells hslots hd (fun q cA H1 hK1 hP1 hD1 hS1 => ?_)
  have h1 : s.vm.findClass ("[" ++ FieldType.boolean.toString) = some cA := (hK1.2 2 (cA, .boolean) rfl).2
  have h2 : s.vm.findClass ("[" ++ FieldType.boolean.toString) = some cZ := (hk.1.2 1 (cZ, .boolean) rfl).2
  obtain rfl : cA = cZ := Option.some.inj (h1.symm.trans h2)
  exact kk q H1 hP1 hD1 hS1
theorem ca_obj (S : CallFix p m c cc nL s args ak_ own) {idx a : Nat} (hls : ls.size = nL) (hl : Cond.methodLink own idx objectInit ∈ ak_) (hf : 1 ≤ R.frames) (hlo : (rest.map fun v => v.category).sum + 12 ≤ R.locals) (hd : decode cc pc = .ok (.invokespecial idx, 3)) (kk : W p l e R s m args below meth c H locs cells slots Q (F0 m (pc + 3) ls rest)) : W p l e R s m args below meth c H locs cells slots Q (F0 m pc ls (.ref a :: rest)) := by
  refine W.objInit S.1 S.2.1 S.2.2.2.1 (S.2.2.2.2 _ hl) (S.2.2.2.2 _ ak_oi) (S.2.2.2.2 _ ak_oc) rfl (hls.trans S.2.2.1.symm) rfl hd hf (by have : 2 * (F0 m pc ls (.ref a :: rest)).monitorRoom = 0 := rfl; omega) ?_
  exact kk
theorem ca_join {q0 : Nat} {e0 : va_E} {st0 : List Value} {mc ms : Nat} {wf : (Nat → Nat) → va_W} {wr : va_W} {a : Array Value} (hP : va_P D cl_ ws H) (hD : va_D A ws) (hS : va_S A s.heap H locs) (hA : ∀ q, s.heap.size ≤ q → A q) (iC : Nat) (isR : List Nat) (hC : ws[iC]? = some (q0, e0)) (hR : isR.map (fun i => ws[i]?) = wr.map some) (hn : va_nd isR = true) (hdis : ∀ i ∈ isR, i ∉ [iC])
    (hr : va_Run p l e R s m args below meth c H locs cells slots mc ms (F0 m pc ls st0) rest (post_ D H.size [(q0, e0)] wf a) (va_A [(q0, e0)] H.size))
    (kk : ∀ (f : Nat → Nat) (H1 : Heap) (locs1 : List Loc), va_P D cl_ (wr ++ wf f) H1 → va_D A (wr ++ wf f) → va_S A s.heap H1 locs1 → W p l e R s m args below meth c H1 locs1 (cells + mc) (slots + ms) Q (F0 m (pc + 3) ls rest)) : W p l e R s m args below meth c H locs cells slots Q (F0 m pc ls st0) := by
  have hC2 : [iC].map (fun i => ws[i]?) = [(q0, e0)].map some := by simp [hC]
  have hFc := va_free (wc := [(q0, e0)]) hD hS hA [iC] hC2
  refine va_callv hr hS (fun q _ h => hFc q h) hFc (fun u t H1 locs1 ht hvm _ hB hz1 hk1 hS1 => ?_)
  obtain ⟨hP1, hD1⟩ := hB
  rw [ht] at hP1
  obtain ⟨hP2, hD2⟩ := va_join (wr := wr) (w1 := wf u) hP hD [iC] isR hC2 hR hn hdis hk1 hFc hP1 hD1
  exact kk u H1 locs1 hP2 hD2 hS1
theorem ca_pre {q0 : Nat} {e0 : va_E} {as : List Value} (hk : kk_ D cI cZ s) (hP : va_P D cl_ ws H) (hD : va_D A ws) (iC : Nat) (hC : ws[iC]? = some (q0, e0)) : PreS s H (pre_ D cI cZ H.size [(q0, e0)] as) as :=
  ⟨pre_bl, fun U hU hW => ⟨rfl, by rw [hU], by rw [hU]; exact hP.sub (ws' := [(q0, e0)]) [iC] (by simp [hC]), kk_moved hW hk, (hD.sub (ws' := [(q0, e0)]) [iC] rfl (by simp [hC])).weaken (fun _ _ _ _ => trivial)⟩⟩
theorem ca_init (S : CallFix p m c cc nL s args ak_ own) (hk : kk_ D cI cZ s) {q0 : Nat} {e0 : va_E} {wf : (Nat → Nat) → va_W} {wr : va_W} (hP : va_P D cl_ ws H) (hD : va_D A ws) (hS : va_S A s.heap H locs) (hA : ∀ q, s.heap.size ≤ q → A q) (iC : Nat) (isR : List Nat) (hC : ws[iC]? = some (q0, e0)) (hR : isR.map (fun i => ws[i]?) = wr.map some) (hn : va_nd isR = true) (hdis : ∀ i ∈ isR, i ∉ [iC])
    {y : MethodName} {bytes : ByteArray} {maxL index d lo mc ms : Nat} (hM : cc_ l y (wz_ y bytes maxL none) d lo mc ms D cI cZ [.ref q0] [(q0, e0)] wf) (hcode : Cond.code y bytes maxL none ∈ ak_) (hl : Cond.methodLink own index y ∈ ak_) (hin : Cond.instanceMethod y ∈ ak_) (hini : Cond.initialized y.cls ∈ ak_) (hy : y.cls ≠ "java/lang/invoke/MethodHandle" ∧ y.cls ≠ "java/lang/invoke/VarHandle" ∧ (parseMethodDescriptor y.desc).map (fun d => d.parameters.length) = some 0) (hnm : y.name = "<init>")
    (hroom : d + 1 ≤ R.frames ∧ 8 + (maxL + 11) + lo ≤ R.locals) (hls : ls.size = nL) (hw : (rest.map fun v => v.category).sum ≤ 8) (hd : decode cc pc = .ok (.invokespecial index, 3)) (hf : cells + mc ≤ R.cells ∧ slots + ms ≤ R.slots)
    (kk : ∀ (f : Nat → Nat) (H1 : Heap) (locs1 : List Loc), va_P D cl_ (wr ++ wf f) H1 → va_D A (wr ++ wf f) → va_S A s.heap H1 locs1 → W p l e R s m args below meth c H1 locs1 (cells + mc) (slots + ms) Q (F0 m (pc + 3) ls rest)) : W p l e R s m args below meth c H locs cells slots Q (F0 m pc ls (.ref q0 :: rest)) :=
  ca_join hP hD hS hA iC isR hC hR hn hdis (va_runI (nL := nL) (n := 0) (As := []) (rest := rest) (ws := wz_ y bytes maxL none) (rm := rc_ d lo mc ms) S (hM H.size) ⟨callB_of 0 S.2.2.2.2 (ak_good y bytes maxL none hcode) rfl rfl rfl (S.2.2.2.2 _ hini) (S.2.2.2.2 _ hl) hy hroom, hnm, S.2.2.2.2 _ hin⟩ (ca_pre hk hP hD iC hC) rfl rfl hls rfl (lv_room hw) hd hf) kk
theorem ca_initN (S : CallFix p m c cc nL s args ak_ own) (hk : kk_ D cI cZ s) {q0 : Nat} {e0 : va_E} {wf : (Nat → Nat) → va_W} {wr : va_W} (hP : va_P D cl_ ws H) (hD : va_D A ws) (hS : va_S A s.heap H locs) (hA : ∀ q, s.heap.size ≤ q → A q) (iC : Nat) (isR : List Nat) (hC : ws[iC]? = some (q0, e0)) (hR : isR.map (fun i => ws[i]?) = wr.map some) (hn : va_nd isR = true) (hdis : ∀ i ∈ isR, i ∉ [iC])
    {y : MethodName} {host : String} {bytes : ByteArray} {maxL index d lo mc ms : Nat} (hM : cc_ l y (wz_ y bytes maxL none) d lo mc ms D cI cZ [.ref q0] [(q0, e0)] wf) (hcode : Cond.code y bytes maxL none ∈ ak_) (hl : Cond.methodLinkNest own index y host ∈ nw_) (hin : Cond.instanceMethod y ∈ ak_) (hini : Cond.initialized y.cls ∈ ak_) (hy : y.cls ≠ "java/lang/invoke/MethodHandle" ∧ y.cls ≠ "java/lang/invoke/VarHandle" ∧ (parseMethodDescriptor y.desc).map (fun d => d.parameters.length) = some 0) (hnm : y.name = "<init>")
    (hroom : d + 1 ≤ R.frames ∧ 8 + (maxL + 11) + lo ≤ R.locals) (hls : ls.size = nL) (hw : (rest.map fun v => v.category).sum ≤ 8) (hd : decode cc pc = .ok (.invokespecial index, 3)) (hf : cells + mc ≤ R.cells ∧ slots + ms ≤ R.slots)
    (kk : ∀ (f : Nat → Nat) (H1 : Heap) (locs1 : List Loc), va_P D cl_ (wr ++ wf f) H1 → va_D A (wr ++ wf f) → va_S A s.heap H1 locs1 → W p l e R s m args below meth c H1 locs1 (cells + mc) (slots + ms) Q (F0 m (pc + 3) ls rest)) : W p l e R s m args below meth c H locs cells slots Q (F0 m pc ls (.ref q0 :: rest)) :=
  ca_join hP hD hS hA iC isR hC hR hn hdis (va_runIN (nL := nL) (n := 0) (As := []) (rest := rest) (host := host) (ws := wz_ y bytes maxL none) (rm := rc_ d lo mc ms) S (hM H.size) ⟨va_cnB 0 S.2.2.2.2 (ak_good y bytes maxL none hcode) rfl rfl rfl (hk.2 _ hl) (S.2.2.2.2 _ hini) hy hroom, hnm, S.2.2.2.2 _ hin⟩ (ca_pre hk hP hD iC hC) rfl rfl hls rfl (lv_room hw) hd hf) kk
theorem ca_stat (S : CallFix p m c cc nL s args ak_ own) (hk : kk_ D cI cZ s) {q0 : Nat} {e0 : va_E} {v : Value} {wf : (Nat → Nat) → va_W} {wr : va_W} (hP : va_P D cl_ ws H) (hD : va_D A ws) (hS : va_S A s.heap H locs) (hA : ∀ q, s.heap.size ≤ q → A q) (iC : Nat) (isR : List Nat) (hC : ws[iC]? = some (q0, e0)) (hR : isR.map (fun i => ws[i]?) = wr.map some) (hn : va_nd isR = true) (hdis : ∀ i ∈ isR, i ∉ [iC])
    {y : MethodName} {bytes : ByteArray} {maxL index d lo mc ms : Nat} (hM : cc_ l y (wz_ y bytes maxL none) d lo mc ms D cI cZ [.ref q0, v] [(q0, e0)] wf) (hcode : Cond.code y bytes maxL none ∈ ak_) (hl : Cond.methodLink own index y ∈ ak_) (hst : Cond.static y ∈ ak_) (hini : Cond.initialized y.cls ∈ ak_) (hy : y.cls ≠ "java/lang/invoke/MethodHandle" ∧ y.cls ≠ "java/lang/invoke/VarHandle" ∧ (parseMethodDescriptor y.desc).map (fun d => d.parameters.length) = some 2)
    (hroom : d + 1 ≤ R.frames ∧ 8 + (maxL + 11) + lo ≤ R.locals) (hls : ls.size = nL) (hw : (rest.map fun v => v.category).sum ≤ 8) (hd : decode cc pc = .ok (.invokestatic index, 3)) (hf : cells + mc ≤ R.cells ∧ slots + ms ≤ R.slots)
    (kk : ∀ (f : Nat → Nat) (H1 : Heap) (locs1 : List Loc), va_P D cl_ (wr ++ wf f) H1 → va_D A (wr ++ wf f) → va_S A s.heap H1 locs1 → W p l e R s m args below meth c H1 locs1 (cells + mc) (slots + ms) Q (F0 m (pc + 3) ls rest)) : W p l e R s m args below meth c H locs cells slots Q (F0 m pc ls (v :: .ref q0 :: rest)) :=
  ca_join hP hD hS hA iC isR hC hR hn hdis (va_runS (nL := nL) (n := 2) (As := [.ref q0, v]) (rest := rest) (ws := wz_ y bytes maxL none) (rm := rc_ d lo mc ms) S (hM H.size) ⟨callB_of 2 S.2.2.2.2 (ak_good y bytes maxL none hcode) rfl rfl rfl (S.2.2.2.2 _ hini) (S.2.2.2.2 _ hl) hy hroom, S.2.2.2.2 _ hst⟩ (ca_pre hk hP hD iC hC) rfl rfl hls rfl (lv_room hw) hd hf) kk
end CN
/-- only the places below the length count -/
theorem ca_ext {D : va_G} {ws : va_W} {H : Heap} {A : Nat → Prop} (k : Nat) {a n : Nat} {cA : ClassId} {f g : Nat → Int32} (hP : va_P D cl_ ws H) (hD : va_D A ws) (hk : ws[k]? = some (a, .inl (cA, n, .inl f))) (hg : ∀ j, j < n → f j = g j) : va_P D cl_ (ws.set k (a, .inl (cA, n, .inl g))) H ∧ va_D A (ws.set k (a, .inl (cA, n, .inl g))) := by
  refine ⟨?_, hD.set hk⟩
  refine hP.set hD hk ?_ (fun _ _ => rfl)
  have h1 := hP k _ hk
  show H[a]? = some (vp_cell cA (n, .inl g))
  have h2 : H[a]? = some (vp_cell cA (n, .inl f)) := h1
  rw [h2, vp_cell_i, vp_cell_i]
  exact congrArg some (arr_to _ (fun j hj => by rw [hg j hj]))
theorem upd_to {f : Nat → Int32} {i : Nat} {v : Int32} (hi : i < 2 ^ 31) (h : ∀ k, k < i → f k = v) : ∀ k, k < i + 1 → upd f (nI i).toNatClampNeg v k = v := by
  intro k hk
  unfold upd
  rw [nI_clamp hi]
  by_cases e : k = i
  · rw [if_pos e]
  · rw [if_neg e]; exact h k (by omega)
set_option maxRecDepth 100000 in
set_option maxHeartbeats 4000000 in
/-- Arrays.fill on one cell -/
theorem cc_fill (l : Launch) (D : va_G) (cI cZ : ClassId) (a n : Nat) (hn : n < 2 ^ 31) (v : Int32) (f0 : Nat → Int32) : cc_ l y_A_fill (wz_ y_A_fill b_A_fill 4 none) 0 0 0 0 D cI cZ [.ref a, .int v] [(a, .inl (cI, n, .inl f0))] (fun _ => [(a, .inl (cI, n, .inl (fun _ => v)))]) := by
  intro sz
  refine Met.ofW (cc := b_A_fill) (maxL := 4) (ret := none) (by decide) rfl ?_
  intro p e s m args below meth c s₁ B hml hv
  obtain ⟨rfl, hsz, hP, hk, hD0⟩ := hv
  have hx := B.exec
  have hb := B.bytes
  have hr := B.returns
  have hlocks := B.notSynchronized
  subst hsz
  have hD := hD0.self (sz := s.heap.size)
  generalize hAe : va_A [(a, .inl (cI, n, .inl f0))] s.heap.size = A at hD ⊢
  have hS : va_S A s.heap s.heap [] := va_S.rf
  have hl := lv_entry ([.ref a, .int v]) (n := 4) (Nat.le_of_ble_eq_true rfl)
  rw [lg_entry_eq]
  generalize (lg_sl ([.ref a, .int v]) ++ List.replicate (4 - (lg_sl ([.ref a, .int v])).length) Slot.unset).toArray = ls at hl ⊢
  have hl : lv_has ls 4 [(0, .ref a), (1, .int v)] := hl
  have loop : ∀ (d i : Nat) (f : Nat → Int32) (H : Heap) (locs : List Loc) (ls : Array Slot), i + d = n → (∀ k, k < i → f k = v) → lv_has ls 4 [(2, .int (nI i)), (3, .int (nI n)), (0, .ref a), (1, .int v)] → va_P D cl_ [(a, .inl (cI, n, .inl f))] H → va_D A [(a, .inl (cI, n, .inl f))] → va_S A s.heap H locs → W p l e (rc_ 0 0 0 0) s m #[Value.ref a, Value.int v] below meth c H locs 0 0 (MQ below (post_ D s.heap.size [(a, .inl (cI, n, .inl f0))] (fun _ => [(a, .inl (cI, n, .inl (fun _ => v)))])) #[Value.ref a, Value.int v] s 0 0 A) (F0 m 5 ls []) := by
    intro d
    induction d with
    | zero =>
      intro i f H locs ls hid hf hl hP hD hS
      obtain rfl : i = n := by omega
      refine lv_iload_n hx hb d_A_fill_5 rfl (lv_at hl 0 rfl) ?_
      refine lv_iload_n hx hb d_A_fill_6 rfl (lv_at hl 1 rfl) ?_
      refine lv_icmp_ge hx hb d_A_fill_7 (tgt := 20) rfl (fun _ => ?_) (fun q => absurd (nI_le (Nat.le_refl _) hn) q)
      obtain ⟨hP9, hD9⟩ := ca_ext (g := fun _ => v) 0 hP hD rfl hf
      have hP9 : va_P D cl_ [(a, .inl (cI, i, .inl (fun _ => v)))] H := hP9
      have hD9 : va_D A [(a, .inl (cI, i, .inl (fun _ => v)))] := hD9
      rw [← hAe] at hD9
      exact W.vret hx hb hr (fun t ht hW => ⟨⟨fun _ => 0, rfl, trivial, by rw [ht]; exact hP9, hD9⟩, by rw [hAe]; exact hS.F ht⟩) hS.2.2 d_A_fill_20 hlocks
    | succ d ih =>
      intro i f H locs ls hid hf hl hP hD hS
      refine lv_iload_n hx hb d_A_fill_5 rfl (lv_at hl 0 rfl) ?_
      refine lv_iload_n hx hb d_A_fill_6 rfl (lv_at hl 1 rfl) ?_
      refine lv_icmp_ge hx hb d_A_fill_7 (tgt := 20) rfl (fun q => absurd q (nI_ge (by omega) (by omega))) (fun _ => ?_)
      refine lv_aload_n hx hb d_A_fill_10 rfl (lv_at hl 2 rfl) ?_
      refine lv_iload_n hx hb d_A_fill_11 rfl (lv_at hl 0 rfl) ?_
      refine lv_iload_n hx hb d_A_fill_12 rfl (lv_at hl 3 rfl) ?_
      refine va_iast hx hb hk.1 hP hD hS 0 0 rfl rfl (vp_in_nI (by omega) hn) d_A_fill_13 (fun H1 locs1 hP1 hD1 hS1 => ?_)
      refine lv_iinc (k := 0) (lv' := [(2, _), (3, _), (0, _), (1, _)]) hx hb d_A_fill_14 hl rfl (ii_1 i) (by decide) rfl (fun ls' hl' => ?_)
      refine lv_goto hx hb d_A_fill_17 rfl ?_
      exact ih (i + 1) _ H1 locs1 ls' (by omega) (upd_to (by omega) hf) hl' hP1 hD1 hS1
  refine lv_iconst (v := nI 0) hx hb d_A_fill_0 (by decide) ?_
  refine lv_istore_n (lv' := [(2, _), (0, _), (1, _)]) hx hb d_A_fill_1 rfl hl (by decide) rfl (fun ls hl => ?_)
  refine lv_aload_n hx hb d_A_fill_2 rfl (lv_at hl 1 rfl) ?_
  refine va_alen hx hb hk.1 hP 0 0 rfl rfl (show Int32.ofNat n = nI n from rfl) d_A_fill_3 ?_
  refine lv_istore_n (lv' := [(3, _), (2, _), (0, _), (1, _)]) hx hb d_A_fill_4 rfl hl (by decide) rfl (fun ls hl => ?_)
  exact loop n 0 f0 s.heap [] ls (by omega) (fun k hk => by omega) (lv_sub hl [1, 0, 2, 3] rfl) hP hD hS
