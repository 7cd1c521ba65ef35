/-! the world of the class and of the reference: 49 cells, a number for each place; a judgement over it -/
abbrev sg : Type := Nat → Nat → Nat
def ua (σ : sg) (a : Nat) (g : Nat → Nat) : sg := fun b => if b = a then g else σ b
def us (σ : sg) (a i x : Nat) : sg := ua σ a (va_up (σ a) i x)
theorem ua_eq (σ : sg) (a : Nat) (g : Nat → Nat) : ua σ a g a = g := if_pos rfl
theorem ua_ne {σ : sg} {a b : Nat} {g : Nat → Nat} (h : b ≠ a) : ua σ a g b = σ b := if_neg h
theorem us_eq (σ : sg) (a i x : Nat) : us σ a i x a = va_up (σ a) i x := if_pos rfl
theorem us_ne {σ : sg} {a b i x : Nat} (h : b ≠ a) : us σ a i x b = σ b := if_neg h
theorem up_eq {α : Type} (f : Nat → α) (k : Nat) (x : α) : va_up f k x k = x := if_pos rfl
theorem up_ne {α : Type} {f : Nat → α} {k j : Nat} {x : α} (h : j ≠ k) : va_up f k x j = f j := if_neg h
theorem ua_id (σ : sg) (a : Nat) : ua σ a (σ a) = σ := by
  funext b
  by_cases h : b = a
  · subst h; exact ua_eq _ _ _
  · exact ua_ne h
theorem up_id {α : Type} (f : Nat → α) (k : Nat) : va_up f k (f k) = f := by
  funext b
  by_cases h : b = k
  · subst h; exact up_eq _ _ _
  · exact up_ne h
abbrev wX : Type := va_G × ClassId × ClassId × (Nat → Nat)
def adr (X : wX) (k : Nat) : Nat := X.2.2.2 k
def cf_ (X : wX) (g : Nat → Nat) (q : Bool × Nat) : Value := match q.1 with
  | true => .ref (adr X q.2)
  | false => .int (nI (g q.2))
def cz_ (X : wX) (z : Bool) : ClassId := match z with
  | true => X.2.2.1
  | false => X.2.1
def ce_ (X : wX) (d : kd_) (g : Nat → Nat) : va_E := match d with
  | .inl q => .inl (cz_ X q.1, q.2, .inl (fun j => nI (g j)))
  | .inr q => .inr (q.1, q.2.map (cf_ X g))
def wd_ (X : wX) (σ : sg) : va_W := dz_.mapIdx (fun k d => (adr X k, ce_ X d (σ k)))
theorem wd_at {X : wX} {σ : sg} {k : Nat} {d : kd_} (h : dz_[k]? = some d) : (wd_ X σ)[k]? = some (adr X k, ce_ X d (σ k)) := by
  unfold wd_
  rw [List.getElem?_mapIdx, h]
  rfl
theorem wd_set {X : wX} {σ : sg} {k : Nat} {d : kd_} {g : Nat → Nat} (h : dz_[k]? = some d) : (wd_ X σ).set k (adr X k, ce_ X d g) = wd_ X (ua σ k g) := by
  apply List.ext_getElem?
  intro i
  have hk : k < dz_.length := (List.getElem?_eq_some_iff.mp h).1
  by_cases hi : k = i
  · subst hi
    rw [List.getElem?_set_self (by unfold wd_; rw [List.length_mapIdx]; exact hk), wd_at h, ua_eq]
  · rw [List.getElem?_set_ne hi]
    unfold wd_
    rw [List.getElem?_mapIdx, List.getElem?_mapIdx, ua_ne (fun q => hi q.symm)]
def ai_ (X : wX) : Prop := ∀ i j : Nat, i < 49 → j < 49 → adr X i = adr X j → i = j
def aw_ (X : wX) : Nat → Prop := fun q => ∃ k : Nat, k < 49 ∧ adr X k = q
theorem wd_len (X : wX) (σ : sg) : (wd_ X σ).length = 49 := by unfold wd_; rw [List.length_mapIdx]; rfl
theorem wd_key {X : wX} {σ : sg} {k : Nat} {q : Nat × va_E} (hq : (wd_ X σ)[k]? = some q) : k < 49 ∧ q.1 = adr X k := by
  have hk := (List.getElem?_eq_some_iff.mp hq).1
  rw [wd_len] at hk
  refine ⟨hk, ?_⟩
  unfold wd_ at hq
  rw [List.getElem?_mapIdx] at hq
  cases hd : dz_[k]? with
  | none => rw [hd] at hq; cases hq
  | some d => rw [hd] at hq; cases hq; rfl
theorem wd_D {X : wX} {σ : sg} (h : ai_ X) : va_D (aw_ X) (wd_ X σ) :=
  ⟨fun i j p q hi hj e => h i j (wd_key hi).1 (wd_key hj).1 (by rw [← (wd_key hi).2, ← (wd_key hj).2]; exact e), fun k q hk => ⟨k, (wd_key hk).1, (wd_key hk).2.symm⟩⟩
def tz_ (X : wX) : List (ClassId × FieldType) := [(X.2.1, .int), (X.2.2.1, .boolean)]
theorem nw_warm {w : Cond} {s U : State} (hW : s.WarmedH U.vm) (hn : isN w = true) (h : va_Nw w s) : va_Nw w U := by
  cases w <;> first | exact va_Nw.warmF hW h | exact va_Nw.warmM hW h | (simp [isN] at hn)
theorem nw_same {w : Cond} {s U : State} (hv : s.vm = U.vm) (hn : isN w = true) (h : va_Nw w s) : va_Nw w U := by
  cases w <;> first | exact va_Nw.same rfl hv h | (simp [isN] at hn)
/-- the statics: two tables that nobody writes -/
def zs_ (X : wX) (U : State) (H : Heap) : Prop := ∃ t1 t2 : Nat, va_Z R_D "BITS" "[I" (.ref t1) (aw_ X) U H ∧ va_T .int t1 6 (fun j => .int (nI (bitT.getD j 0))) (aw_ X) U H ∧ va_Z R_D "STANDING" "[I" (.ref t2) (aw_ X) U H ∧ va_T .int t2 18 (fun j => .int (nI (staT.getD j 0))) (aw_ X) U H
def fz_ (X : wX) (U : State) (H : Heap) : Prop := va_K X.1 cl_ (tz_ X) U ∧ ai_ X ∧ (∀ w ∈ nw_, va_Nw w U) ∧ zs_ X U H
theorem fz_moved {X : wX} {s U : State} {H : Heap} {locs : List Loc} (h : fz_ X s s.heap) (hW : s.WarmedH U.vm) (hS : va_S (aw_ X) s.heap H locs) : fz_ X U H := by
  obtain ⟨h1, h2, h3, t1, t2, z1, z2, z3, z4⟩ := h
  exact ⟨va_K.moved hW.alike h1, h2, fun w hw => nw_warm hW (nw_is w hw) (h3 w hw), t1, t2, va_Z.moved hW.alike (va_Z.kept z1 hS.2.1), va_T.moved hW.alike (va_T.kept z2 hS.2.1), va_Z.moved hW.alike (va_Z.kept z3 hS.2.1), va_T.moved hW.alike (va_T.kept z4 hS.2.1)⟩
theorem fz_same {X : wX} {s U : State} {H : Heap} (h : fz_ X s H) (hv : s.vm = U.vm) : fz_ X U H := by
  obtain ⟨h1, h2, h3, t1, t2, z1, z2, z3, z4⟩ := h
  have ha : s.vm.Alike U.vm := by rw [← hv]; exact Vm.Alike.refl _
  exact ⟨va_K.moved ha h1, h2, fun w hw => nw_same hv (nw_is w hw) (h3 w hw), t1, t2, va_Z.moved ha z1, va_T.moved ha z2, va_Z.moved ha z3, va_T.moved ha z4⟩
abbrev rr_ (d : Nat) : Room := { frames := d, cells := 0, slots := 0, locals := 30 * d }
def mq_ (X : wX) (P : Option Value → sg → Prop) : Array Value → State → Outcome → State → Prop := fun _ st oc t => (∃ (r : Option Value) (τ : sg), oc = .returned r ∧ P r τ ∧ va_P X.1 cl_ (wd_ X τ) t.heap) ∧ va_F (aw_ X) st t
/-- a contract over the world -/
def mt_ (l : Launch) (X : wX) (y : MethodName) (ws : List Cond) (d : Nat) (as : List Value) (σ : sg) (P : Option Value → sg → Prop) : Prop :=
  Met l y ws (rr_ d) (va_Pc as (fun U => fz_ X U U.heap ∧ va_P X.1 cl_ (wd_ X σ) U.heap)) (mq_ X P) 0 0 (aw_ X)
section CO
variable {p : Program} {l : Launch} {e : Env} {R : Room} {s : State} {m : MethodId} {args : Array Value} {below : List Frame} {meth : Method} {c : Code} {Q : State → Prop}
variable {X : wX} {nL : Nat} {L : List (Nat × Value)} {σ : sg} {pc : Nat} {st : List Value} {cc : ByteArray} {own : String}
/-- the machine over the world: locals by a list, the heap by the state of the cells -/
def vv_ (p : Program) (l : Launch) (e : Env) (R : Room) (s : State) (m : MethodId) (args : Array Value) (below : List Frame) (meth : Method) (c : Code) (Q : State → Prop) (X : wX) (nL : Nat) (L : List (Nat × Value)) (σ : sg) (pc : Nat) (st : List Value) : Prop :=
  ∀ (H : Heap) (locs : List Loc) (ls : Array Slot), lv_has ls nL L → va_P X.1 cl_ (wd_ X σ) H → va_S (aw_ X) s.heap H locs → W p l e R s m args below meth c H locs R.cells R.slots Q (F0 m pc ls st)
def fx_ (p : Program) (s : State) (m : MethodId) (args : Array Value) (c : Code) (cc : ByteArray) (nL : Nat) (own : String) (X : wX) : Prop := CallFix p m c cc nL s args ak_ own ∧ fz_ X s s.heap
theorem fx_x (F : fx_ p s m args c cc nL own X) : p.tables.exec = Jvm.exec := F.1.1
theorem fx_b (F : fx_ p s m args c cc nL own X) : c.code = cc := F.1.2.1
theorem fx_t (F : fx_ p s m args c cc nL own X) {w : Cond} (h : w ∈ ak_) : w.before args s = true := F.1.2.2.2.2 w h
theorem fx_n (F : fx_ p s m args c cc nL own X) {w : Cond} (h : w ∈ nw_) : w.before args s = true := by
  have h1 := F.2.2.2.1 w h
  have h2 := nw_is w h
  cases w <;> first | exact va_Nw.use rfl h1 | (simp [isN] at h2)
theorem mt_of {y : MethodName} {ret : Option FieldType} {d : Nat} {as : List Value} {P : Option Value → sg → Prop} (ho : y.cls = own) (hy : plainName own = true) (hle : (lg_sl as).length ≤ nL)
    (body : ∀ p e s m args below meth c, fx_ p s m args c cc nL own X → meth.sig.returnType = ret → meth.locks = false → vv_ p l e (rr_ d) s m args below meth c (MQ below (mq_ X P) args s 0 0 (aw_ X)) X nL (lv_args 0 as) σ 0 []) : mt_ l X y (wz_ y cc nL ret) d as σ P := by
  subst ho
  refine Met.ofW (cc := cc) (maxL := nL) (ret := ret) hy rfl ?_
  intro p e s m args below meth c s₁ B hml hv
  obtain ⟨rfl, hF, hP⟩ := hv
  have hts := atoms_spec (ws := wz_ y cc nL ret) B.pre
  have hown : s.vm.findClass y.cls = some m.cls := findClass_of_methodNamed B.named
  have hl := lv_entry as (n := nL) hle
  rw [lg_entry_eq]
  exact body p e s m as.toArray below meth c ⟨⟨B.exec, B.bytes, hml, hown, fun w hw => hts w (List.mem_cons_of_mem _ hw)⟩, hF⟩ B.returns B.notSynchronized s.heap [] _ hl hP va_S.rf
/-! ends -/
theorem qv_ret {d : Nat} {P : Option Value → sg → Prop} (F : fx_ p s m args c cc nL own X) (hr : meth.sig.returnType = none) (hlk : meth.locks = false) (hd : decode cc pc = .ok (.return_, 1)) (hp : P none σ) : vv_ p l e (rr_ d) s m args below meth c (MQ below (mq_ X P) args s 0 0 (aw_ X)) X nL L σ pc [] :=
  fun H locs ls _ hP hS => W.vret (fx_x F) (fx_b F) hr (fun t ht _ => ⟨⟨none, σ, rfl, hp, by rw [ht]; exact hP⟩, hS.F ht⟩) hS.2.2 hd hlk
theorem qv_iret {d : Nat} {P : Option Value → sg → Prop} {v : Int32} (F : fx_ p s m args c cc nL own X) (hr : meth.sig.returnType = some .int) (hlk : meth.locks = false) (hd : decode cc pc = .ok (.ireturn, 1)) (hp : P (some (.int v)) σ) : vv_ p l e (rr_ d) s m args below meth c (MQ below (mq_ X P) args s 0 0 (aw_ X)) X nL L σ pc [.int v] :=
  fun H locs ls _ hP hS => W.iret (fx_x F) (fx_b F) hr (fun t ht _ => ⟨⟨some (.int v), σ, rfl, hp, by rw [ht]; exact hP⟩, hS.F ht⟩) hS.2.2 hd hlk
theorem qv_zret {d : Nat} {P : Option Value → sg → Prop} {v : Int32} (F : fx_ p s m args c cc nL own X) (hr : meth.sig.returnType = some .boolean) (hlk : meth.locks = false) (hn : v = 0 ∨ v = 1) (hd : decode cc pc = .ok (.ireturn, 1)) (hp : P (some (.int v)) σ) : vv_ p l e (rr_ d) s m args below meth c (MQ below (mq_ X P) args s 0 0 (aw_ X)) X nL L σ pc [.int v] :=
  fun H locs ls _ hP hS => W.zret (fx_x F) (fx_b F) hr (by rcases hn with rfl | rfl <;> decide) (fun t ht _ => ⟨⟨some (.int v), σ, rfl, hp, by rw [ht]; exact hP⟩, hS.F ht⟩) hS.2.2 hd hlk
/-! locals and constants -/
theorem qv_sub {L' : List (Nat × Value)} (ks : List Nat) (hl : lv_pick L ks = L') (k : vv_ p l e R s m args below meth c Q X nL L' σ pc st) : vv_ p l e R s m args below meth c Q X nL L σ pc st :=
  fun H locs ls h hP hS => k H locs ls (lv_sub h ks hl) hP hS
theorem qv_st {σ' : sg} (h : σ = σ') (k : vv_ p l e R s m args below meth c Q X nL L σ' pc st) : vv_ p l e R s m args below meth c Q X nL L σ pc st := h ▸ k
theorem qv_stk {st' : List Value} (h : st = st') (k : vv_ p l e R s m args below meth c Q X nL L σ pc st') : vv_ p l e R s m args below meth c Q X nL L σ pc st := h ▸ k
theorem qv_iconst (F : fx_ p s m args c cc nL own X) {n : Int} (v : Int32) (hd : decode cc pc = .ok (.iconst n, 1)) (hv : Int32.ofInt n = v) (k : vv_ p l e R s m args below meth c Q X nL L σ (pc + 1) (.int v :: st)) : vv_ p l e R s m args below meth c Q X nL L σ pc st :=
  fun H locs ls h hP hS => lv_iconst (fx_x F) (fx_b F) hd hv (k H locs ls h hP hS)
theorem qv_bipush (F : fx_ p s m args c cc nL own X) {n : Int} (v : Int32) (hd : decode cc pc = .ok (.bipush n, 2)) (hv : (Int8.ofInt n).toInt32 = v) (k : vv_ p l e R s m args below meth c Q X nL L σ (pc + 2) (.int v :: st)) : vv_ p l e R s m args below meth c Q X nL L σ pc st :=
  fun H locs ls h hP hS => lv_bipush (fx_x F) (fx_b F) hd hv (k H locs ls h hP hS)
theorem qv_sipush (F : fx_ p s m args c cc nL own X) {n : Int} (v : Int32) (hd : decode cc pc = .ok (.sipush n, 3)) (hv : (Int16.ofInt n).toInt32 = v) (k : vv_ p l e R s m args below meth c Q X nL L σ (pc + 3) (.int v :: st)) : vv_ p l e R s m args below meth c Q X nL L σ pc st :=
  fun H locs ls h hP hS => lv_sipush (fx_x F) (fx_b F) hd hv (k H locs ls h hP hS)
theorem qv_iload_n (F : fx_ p s m args c cc nL own X) {i : Fin 4} {x : Int32} (hd : decode cc pc = .ok (.iload_n i, 1)) (j : Nat) (hj : L[j]? = some ((i : Nat), .int x)) (k : vv_ p l e R s m args below meth c Q X nL L σ (pc + 1) (.int x :: st)) : vv_ p l e R s m args below meth c Q X nL L σ pc st :=
  fun H locs ls h hP hS => lv_iload_n (fx_x F) (fx_b F) hd rfl (lv_at h j hj) (k H locs ls h hP hS)
theorem qv_iload (F : fx_ p s m args c cc nL own X) {i : Nat} {x : Int32} (hd : decode cc pc = .ok (.iload i, 2)) (j : Nat) (hj : L[j]? = some (i, .int x)) (k : vv_ p l e R s m args below meth c Q X nL L σ (pc + 2) (.int x :: st)) : vv_ p l e R s m args below meth c Q X nL L σ pc st :=
  fun H locs ls h hP hS => lv_iload (fx_x F) (fx_b F) hd (lv_at h j hj) (k H locs ls h hP hS)
theorem qv_aload_n (F : fx_ p s m args c cc nL own X) {i : Fin 4} {x : Nat} (hd : decode cc pc = .ok (.aload_n i, 1)) (j : Nat) (hj : L[j]? = some ((i : Nat), .ref x)) (k : vv_ p l e R s m args below meth c Q X nL L σ (pc + 1) (.ref x :: st)) : vv_ p l e R s m args below meth c Q X nL L σ pc st :=
  fun H locs ls h hP hS => lv_aload_n (fx_x F) (fx_b F) hd rfl (lv_at h j hj) (k H locs ls h hP hS)
theorem qv_aload (F : fx_ p s m args c cc nL own X) {i : Nat} {x : Nat} (hd : decode cc pc = .ok (.aload i, 2)) (j : Nat) (hj : L[j]? = some (i, .ref x)) (k : vv_ p l e R s m args below meth c Q X nL L σ (pc + 2) (.ref x :: st)) : vv_ p l e R s m args below meth c Q X nL L σ pc st :=
  fun H locs ls h hP hS => lv_aload (fx_x F) (fx_b F) hd (lv_at h j hj) (k H locs ls h hP hS)
theorem qv_istore_n (F : fx_ p s m args c cc nL own X) {i : Fin 4} {x : Int32} {L' : List (Nat × Value)} (hd : decode cc pc = .ok (.istore_n i, 1)) (hn : (i : Nat) < nL) (hl : ((i : Nat), Value.int x) :: L.filter (fun q => !(q.1 == (i : Nat)) && !(q.1 + 1 == (i : Nat) && q.2.category == 2)) = L') (k : vv_ p l e R s m args below meth c Q X nL L' σ (pc + 1) st) : vv_ p l e R s m args below meth c Q X nL L σ pc (.int x :: st) :=
  fun H locs ls h hP hS => lv_istore_n (fx_x F) (fx_b F) hd rfl h hn hl (fun ls' h' => k H locs ls' h' hP hS)
theorem qv_istore (F : fx_ p s m args c cc nL own X) {i : Nat} {x : Int32} {L' : List (Nat × Value)} (hd : decode cc pc = .ok (.istore i, 2)) (hn : i < nL) (hl : (i, Value.int x) :: L.filter (fun q => !(q.1 == i) && !(q.1 + 1 == i && q.2.category == 2)) = L') (k : vv_ p l e R s m args below meth c Q X nL L' σ (pc + 2) st) : vv_ p l e R s m args below meth c Q X nL L σ pc (.int x :: st) :=
  fun H locs ls h hP hS => lv_istore (fx_x F) (fx_b F) hd h hn hl (fun ls' h' => k H locs ls' h' hP hS)
theorem qv_astore_n (F : fx_ p s m args c cc nL own X) {i : Fin 4} {x : Nat} {L' : List (Nat × Value)} (hd : decode cc pc = .ok (.astore_n i, 1)) (hn : (i : Nat) < nL) (hl : ((i : Nat), Value.ref x) :: L.filter (fun q => !(q.1 == (i : Nat)) && !(q.1 + 1 == (i : Nat) && q.2.category == 2)) = L') (k : vv_ p l e R s m args below meth c Q X nL L' σ (pc + 1) st) : vv_ p l e R s m args below meth c Q X nL L σ pc (.ref x :: st) :=
  fun H locs ls h hP hS => lv_astore_n (fx_x F) (fx_b F) hd rfl h hn hl (fun ls' h' => k H locs ls' h' hP hS)
theorem qv_iinc (F : fx_ p s m args c cc nL own X) {i : Nat} {n : Int} {x : Int32} (v : Int32) {L' : List (Nat × Value)} (hd : decode cc pc = .ok (.iinc i n, 3)) (j : Nat) (hj : L[j]? = some (i, .int x)) (hv : x + Int32.ofInt n = v) (hn : i < nL) (hl : (i, Value.int v) :: L.filter (fun q => !(q.1 == i) && !(q.1 + 1 == i && q.2.category == 2)) = L') (k : vv_ p l e R s m args below meth c Q X nL L' σ (pc + 3) st) : vv_ p l e R s m args below meth c Q X nL L σ pc st :=
  fun H locs ls h hP hS => lv_iinc (fx_x F) (fx_b F) hd h hj hv hn hl (fun ls' h' => k H locs ls' h' hP hS)
theorem qv_goto (F : fx_ p s m args c cc nL own X) {off : Int} {tgt : Nat} (hd : decode cc pc = .ok (.goto off, 3)) (ht : (pc : Int) + off = (tgt : Int)) (k : vv_ p l e R s m args below meth c Q X nL L σ tgt st) : vv_ p l e R s m args below meth c Q X nL L σ pc st :=
  fun H locs ls h hP hS => lv_goto (fx_x F) (fx_b F) hd ht (k H locs ls h hP hS)
theorem qv_dup (F : fx_ p s m args c cc nL own X) {v : Value} (hd : decode cc pc = .ok (.dup, 1)) (hv : v.category = 1) (k : vv_ p l e R s m args below meth c Q X nL L σ (pc + 1) (v :: v :: st)) : vv_ p l e R s m args below meth c Q X nL L σ pc (v :: st) :=
  fun H locs ls h hP hS => lv_dup (fx_x F) (fx_b F) hd hv (k H locs ls h hP hS)
theorem qv_dup2 (F : fx_ p s m args c cc nL own X) {v w : Value} (hd : decode cc pc = .ok (.dup2, 1)) (hv : v.category = 1) (hw : w.category = 1) (k : vv_ p l e R s m args below meth c Q X nL L σ (pc + 1) (v :: w :: v :: w :: st)) : vv_ p l e R s m args below meth c Q X nL L σ pc (v :: w :: st) :=
  fun H locs ls h hP hS => lv_dup2_11 (fx_x F) (fx_b F) hd hv hw (k H locs ls h hP hS)
end CO
/-! numbers -/
theorem nz_or (a b : Nat) : nI a ||| nI b = nI (a ||| b) := by
  apply Int32.toBitVec_inj.1
  show BitVec.ofNat 32 a ||| BitVec.ofNat 32 b = BitVec.ofNat 32 (a ||| b)
  apply BitVec.eq_of_getLsbD_eq
  intro i hi
  simp [hi]
theorem nz_and (a b : Nat) : nI a &&& nI b = nI (a &&& b) := by
  apply Int32.toBitVec_inj.1
  show BitVec.ofNat 32 a &&& BitVec.ofNat 32 b = BitVec.ofNat 32 (a &&& b)
  apply BitVec.eq_of_getLsbD_eq
  intro i hi
  simp [hi]
theorem nz_sl : ∀ n, n < 32 → ((nI n &&& 31).toBitVec.smod 32).toNat = n := by decide +kernel
theorem nz_shl {a k : Nat} (hk : k < 32) (h : a * 2 ^ k < 2 ^ 32) : nI a <<< (nI k &&& 31) = nI (a * 2 ^ k) := pk_shlN _ k (nz_sl k hk) h
theorem nz_shr {a k : Nat} (hk : k < 32) (h : a < 2 ^ 31) : nI a >>> (nI k &&& 31) = nI (a / 2 ^ k) := pk_shrN h _ k (nz_sl k hk)
theorem nz_upd (f : Nat → Nat) {i : Nat} (hi : i < 2 ^ 31) (x : Nat) : upd (fun j => nI (f j)) (nI i).toNatClampNeg (nI x) = fun j => nI (va_up f i x j) := by
  funext j
  rw [nI_clamp hi]
  by_cases h : j = i
  · subst h; simp [upd, va_up]
  · simp [upd, va_up, h]
section CA
variable {p : Program} {l : Launch} {e : Env} {R : Room} {s : State} {m : MethodId} {args : Array Value} {below : List Frame} {meth : Method} {c : Code} {Q : State → Prop}
variable {X : wX} {nL : Nat} {L : List (Nat × Value)} {σ : sg} {pc : Nat} {st : List Value} {cc : ByteArray} {own : String}
theorem qv_iadd (F : fx_ p s m args c cc nL own X) {a b : Nat} (hd : decode cc pc = .ok (.iadd, 1)) (k : vv_ p l e R s m args below meth c Q X nL L σ (pc + 1) (.int (nI (a + b)) :: st)) : vv_ p l e R s m args below meth c Q X nL L σ pc (.int (nI b) :: .int (nI a) :: st) :=
  fun H locs ls h hP hS => lv_iadd (fx_x F) (fx_b F) hd (by rw [nI_add]; exact k H locs ls h hP hS)
theorem qv_iaddI (F : fx_ p s m args c cc nL own X) {a b : Int32} (hd : decode cc pc = .ok (.iadd, 1)) (k : vv_ p l e R s m args below meth c Q X nL L σ (pc + 1) (.int (a + b) :: st)) : vv_ p l e R s m args below meth c Q X nL L σ pc (.int b :: .int a :: st) :=
  fun H locs ls h hP hS => lv_iadd (fx_x F) (fx_b F) hd (k H locs ls h hP hS)
theorem qv_isub (F : fx_ p s m args c cc nL own X) {a b : Nat} (hd : decode cc pc = .ok (.isub, 1)) (hab : b ≤ a) (k : vv_ p l e R s m args below meth c Q X nL L σ (pc + 1) (.int (nI (a - b)) :: st)) : vv_ p l e R s m args below meth c Q X nL L σ pc (.int (nI b) :: .int (nI a) :: st) :=
  fun H locs ls h hP hS => lv_isub (fx_x F) (fx_b F) hd (by rw [pk_sub hab]; exact k H locs ls h hP hS)
theorem qv_isubI (F : fx_ p s m args c cc nL own X) {a b : Int32} (hd : decode cc pc = .ok (.isub, 1)) (k : vv_ p l e R s m args below meth c Q X nL L σ (pc + 1) (.int (a - b) :: st)) : vv_ p l e R s m args below meth c Q X nL L σ pc (.int b :: .int a :: st) :=
  fun H locs ls h hP hS => lv_isub (fx_x F) (fx_b F) hd (k H locs ls h hP hS)
theorem qv_imul (F : fx_ p s m args c cc nL own X) {a b : Nat} (hd : decode cc pc = .ok (.imul, 1)) (k : vv_ p l e R s m args below meth c Q X nL L σ (pc + 1) (.int (nI (a * b)) :: st)) : vv_ p l e R s m args below meth c Q X nL L σ pc (.int (nI b) :: .int (nI a) :: st) :=
  fun H locs ls h hP hS => lv_imul (fx_x F) (fx_b F) hd (by rw [pk_mul]; exact k H locs ls h hP hS)
theorem qv_iand (F : fx_ p s m args c cc nL own X) {a b : Nat} (hd : decode cc pc = .ok (.iand, 1)) (k : vv_ p l e R s m args below meth c Q X nL L σ (pc + 1) (.int (nI (a &&& b)) :: st)) : vv_ p l e R s m args below meth c Q X nL L σ pc (.int (nI b) :: .int (nI a) :: st) :=
  fun H locs ls h hP hS => lv_iand (fx_x F) (fx_b F) hd (by rw [nz_and]; exact k H locs ls h hP hS)
theorem qv_ior (F : fx_ p s m args c cc nL own X) {a b : Nat} (hd : decode cc pc = .ok (.ior, 1)) (k : vv_ p l e R s m args below meth c Q X nL L σ (pc + 1) (.int (nI (a ||| b)) :: st)) : vv_ p l e R s m args below meth c Q X nL L σ pc (.int (nI b) :: .int (nI a) :: st) :=
  fun H locs ls h hP hS => lv_ior (fx_x F) (fx_b F) hd (by rw [nz_or]; exact k H locs ls h hP hS)
theorem qv_idiv (F : fx_ p s m args c cc nL own X) {a b : Nat} (hd : decode cc pc = .ok (.idiv, 1)) (ha : a < 2 ^ 31) (h0 : 0 < b) (hb : b < 2 ^ 31) (k : vv_ p l e R s m args below meth c Q X nL L σ (pc + 1) (.int (nI (a / b)) :: st)) : vv_ p l e R s m args below meth c Q X nL L σ pc (.int (nI b) :: .int (nI a) :: st) :=
  fun H locs ls h hP hS => lv_idiv (fx_x F) (fx_b F) hd (nI_ne0 h0 hb) (by rw [pk_div ha h0 hb]; exact k H locs ls h hP hS)
theorem qv_irem (F : fx_ p s m args c cc nL own X) {a b : Nat} (hd : decode cc pc = .ok (.irem, 1)) (ha : a < 2 ^ 31) (h0 : 0 < b) (hb : b < 2 ^ 31) (k : vv_ p l e R s m args below meth c Q X nL L σ (pc + 1) (.int (nI (a % b)) :: st)) : vv_ p l e R s m args below meth c Q X nL L σ pc (.int (nI b) :: .int (nI a) :: st) :=
  fun H locs ls h hP hS => lv_irem (fx_x F) (fx_b F) hd (nI_ne0 h0 hb) (by rw [pk_rem ha h0 hb]; exact k H locs ls h hP hS)
theorem qv_ishl (F : fx_ p s m args c cc nL own X) {a b : Nat} (hd : decode cc pc = .ok (.ishl, 1)) (hb : b < 32) (ha : a * 2 ^ b < 2 ^ 32) (k : vv_ p l e R s m args below meth c Q X nL L σ (pc + 1) (.int (nI (a * 2 ^ b)) :: st)) : vv_ p l e R s m args below meth c Q X nL L σ pc (.int (nI b) :: .int (nI a) :: st) :=
  fun H locs ls h hP hS => lv_ishl (fx_x F) (fx_b F) hd (by rw [nz_shl hb ha]; exact k H locs ls h hP hS)
theorem qv_ishr (F : fx_ p s m args c cc nL own X) {a b : Nat} (hd : decode cc pc = .ok (.ishr, 1)) (hb : b < 32) (ha : a < 2 ^ 31) (k : vv_ p l e R s m args below meth c Q X nL L σ (pc + 1) (.int (nI (a / 2 ^ b)) :: st)) : vv_ p l e R s m args below meth c Q X nL L σ pc (.int (nI b) :: .int (nI a) :: st) :=
  fun H locs ls h hP hS => lv_ishr (fx_x F) (fx_b F) hd (by rw [nz_shr hb ha]; exact k H locs ls h hP hS)
/-! branches on numbers -/
theorem qv_ifeq (F : fx_ p s m args c cc nL own X) {a : Nat} {off : Int} {tgt : Nat} (hd : decode cc pc = .ok (.ifCond .eq off, 3)) (ht : (pc : Int) + off = (tgt : Int)) (ha : a < 2 ^ 31)
    (kt : a = 0 → vv_ p l e R s m args below meth c Q X nL L σ tgt st) (kf : a ≠ 0 → vv_ p l e R s m args below meth c Q X nL L σ (pc + 3) st) : vv_ p l e R s m args below meth c Q X nL L σ pc (.int (nI a) :: st) :=
  fun H locs ls h hP hS => lv_if_eq (fx_x F) (fx_b F) hd ht (fun q => kt ((nI_eq ha (by decide)).mp (q.trans nI_0.symm)) H locs ls h hP hS) (fun q => kf (fun z => q (by rw [z, nI_0])) H locs ls h hP hS)
theorem qv_ifne (F : fx_ p s m args c cc nL own X) {a : Nat} {off : Int} {tgt : Nat} (hd : decode cc pc = .ok (.ifCond .ne off, 3)) (ht : (pc : Int) + off = (tgt : Int)) (ha : a < 2 ^ 31)
    (kt : a ≠ 0 → vv_ p l e R s m args below meth c Q X nL L σ tgt st) (kf : a = 0 → vv_ p l e R s m args below meth c Q X nL L σ (pc + 3) st) : vv_ p l e R s m args below meth c Q X nL L σ pc (.int (nI a) :: st) :=
  fun H locs ls h hP hS => lv_if_ne (fx_x F) (fx_b F) hd ht (fun q => kt (fun z => q (by rw [z, nI_0])) H locs ls h hP hS) (fun q => kf ((nI_eq ha (by decide)).mp (q.trans nI_0.symm)) H locs ls h hP hS)
theorem qv_ifeqI (F : fx_ p s m args c cc nL own X) {x : Int32} {off : Int} {tgt : Nat} (hd : decode cc pc = .ok (.ifCond .eq off, 3)) (ht : (pc : Int) + off = (tgt : Int))
    (kt : x = 0 → vv_ p l e R s m args below meth c Q X nL L σ tgt st) (kf : ¬ x = 0 → vv_ p l e R s m args below meth c Q X nL L σ (pc + 3) st) : vv_ p l e R s m args below meth c Q X nL L σ pc (.int x :: st) :=
  fun H locs ls h hP hS => lv_if_eq (fx_x F) (fx_b F) hd ht (fun q => kt q H locs ls h hP hS) (fun q => kf q H locs ls h hP hS)
/-- a yes or no that a method answered -/
theorem qv_ifeqB (F : fx_ p s m args c cc nL own X) {b : Bool} {off : Int} {tgt : Nat} (hd : decode cc pc = .ok (.ifCond .eq off, 3)) (ht : (pc : Int) + off = (tgt : Int))
    (kt : b = false → vv_ p l e R s m args below meth c Q X nL L σ tgt st) (kf : b = true → vv_ p l e R s m args below meth c Q X nL L σ (pc + 3) st) : vv_ p l e R s m args below meth c Q X nL L σ pc (.int (nI b.toNat) :: st) :=
  qv_ifeq F hd ht (by cases b <;> decide) (fun q => kt (by cases b; rfl; cases q)) (fun q => kf (by cases b; exact absurd rfl q; rfl))
theorem qv_ifneB (F : fx_ p s m args c cc nL own X) {b : Bool} {off : Int} {tgt : Nat} (hd : decode cc pc = .ok (.ifCond .ne off, 3)) (ht : (pc : Int) + off = (tgt : Int))
    (kt : b = true → vv_ p l e R s m args below meth c Q X nL L σ tgt st) (kf : b = false → vv_ p l e R s m args below meth c Q X nL L σ (pc + 3) st) : vv_ p l e R s m args below meth c Q X nL L σ pc (.int (nI b.toNat) :: st) :=
  qv_ifne F hd ht (by cases b <;> decide) (fun q => kt (by cases b; exact absurd rfl q; rfl)) (fun q => kf (by cases b; rfl; cases q))
theorem qv_icmpge (F : fx_ p s m args c cc nL own X) {a b : Nat} {off : Int} {tgt : Nat} (hd : decode cc pc = .ok (.if_icmp .ge off, 3)) (ht : (pc : Int) + off = (tgt : Int)) (ha : a < 2 ^ 31) (hb : b < 2 ^ 31)
    (kt : b ≤ a → vv_ p l e R s m args below meth c Q X nL L σ tgt st) (kf : a < b → vv_ p l e R s m args below meth c Q X nL L σ (pc + 3) st) : vv_ p l e R s m args below meth c Q X nL L σ pc (.int (nI b) :: .int (nI a) :: st) :=
  fun H locs ls h hP hS => lv_icmp_ge (fx_x F) (fx_b F) hd ht (fun q => kt ((nI_leI hb ha).mp q) H locs ls h hP hS) (fun q => kf (Nat.not_le.mp fun z => q ((nI_leI hb ha).mpr z)) H locs ls h hP hS)
theorem qv_icmplt (F : fx_ p s m args c cc nL own X) {a b : Nat} {off : Int} {tgt : Nat} (hd : decode cc pc = .ok (.if_icmp .lt off, 3)) (ht : (pc : Int) + off = (tgt : Int)) (ha : a < 2 ^ 31) (hb : b < 2 ^ 31)
    (kt : a < b → vv_ p l e R s m args below meth c Q X nL L σ tgt st) (kf : b ≤ a → vv_ p l e R s m args below meth c Q X nL L σ (pc + 3) st) : vv_ p l e R s m args below meth c Q X nL L σ pc (.int (nI b) :: .int (nI a) :: st) :=
  fun H locs ls h hP hS => lv_icmp_lt (fx_x F) (fx_b F) hd ht (fun q => kt ((nI_ltI ha hb).mp q) H locs ls h hP hS) (fun q => kf (Nat.not_lt.mp fun z => q ((nI_ltI ha hb).mpr z)) H locs ls h hP hS)
theorem qv_icmple (F : fx_ p s m args c cc nL own X) {a b : Nat} {off : Int} {tgt : Nat} (hd : decode cc pc = .ok (.if_icmp .le off, 3)) (ht : (pc : Int) + off = (tgt : Int)) (ha : a < 2 ^ 31) (hb : b < 2 ^ 31)
    (kt : a ≤ b → vv_ p l e R s m args below meth c Q X nL L σ tgt st) (kf : b < a → vv_ p l e R s m args below meth c Q X nL L σ (pc + 3) st) : vv_ p l e R s m args below meth c Q X nL L σ pc (.int (nI b) :: .int (nI a) :: st) :=
  fun H locs ls h hP hS => lv_icmp_le (fx_x F) (fx_b F) hd ht (fun q => kt ((nI_leI ha hb).mp q) H locs ls h hP hS) (fun q => kf (Nat.not_le.mp fun z => q ((nI_leI ha hb).mpr z)) H locs ls h hP hS)
theorem qv_icmpgt (F : fx_ p s m args c cc nL own X) {a b : Nat} {off : Int} {tgt : Nat} (hd : decode cc pc = .ok (.if_icmp .gt off, 3)) (ht : (pc : Int) + off = (tgt : Int)) (ha : a < 2 ^ 31) (hb : b < 2 ^ 31)
    (kt : b < a → vv_ p l e R s m args below meth c Q X nL L σ tgt st) (kf : a ≤ b → vv_ p l e R s m args below meth c Q X nL L σ (pc + 3) st) : vv_ p l e R s m args below meth c Q X nL L σ pc (.int (nI b) :: .int (nI a) :: st) :=
  fun H locs ls h hP hS => lv_icmp_gt (fx_x F) (fx_b F) hd ht (fun q => kt ((nI_ltI hb ha).mp q) H locs ls h hP hS) (fun q => kf (Nat.not_lt.mp fun z => q ((nI_ltI hb ha).mpr z)) H locs ls h hP hS)
theorem qv_icmpeq (F : fx_ p s m args c cc nL own X) {a b : Nat} {off : Int} {tgt : Nat} (hd : decode cc pc = .ok (.if_icmp .eq off, 3)) (ht : (pc : Int) + off = (tgt : Int)) (ha : a < 2 ^ 31) (hb : b < 2 ^ 31)
    (kt : a = b → vv_ p l e R s m args below meth c Q X nL L σ tgt st) (kf : a ≠ b → vv_ p l e R s m args below meth c Q X nL L σ (pc + 3) st) : vv_ p l e R s m args below meth c Q X nL L σ pc (.int (nI b) :: .int (nI a) :: st) :=
  fun H locs ls h hP hS => lv_icmp_eq (fx_x F) (fx_b F) hd ht (fun q => kt ((nI_eq ha hb).mp q) H locs ls h hP hS) (fun q => kf (fun z => q (by rw [z])) H locs ls h hP hS)
theorem qv_icmpne (F : fx_ p s m args c cc nL own X) {a b : Nat} {off : Int} {tgt : Nat} (hd : decode cc pc = .ok (.if_icmp .ne off, 3)) (ht : (pc : Int) + off = (tgt : Int)) (ha : a < 2 ^ 31) (hb : b < 2 ^ 31)
    (kt : a ≠ b → vv_ p l e R s m args below meth c Q X nL L σ tgt st) (kf : a = b → vv_ p l e R s m args below meth c Q X nL L σ (pc + 3) st) : vv_ p l e R s m args below meth c Q X nL L σ pc (.int (nI b) :: .int (nI a) :: st) :=
  fun H locs ls h hP hS => lv_icmp_ne (fx_x F) (fx_b F) hd ht (fun q => kt (fun z => q (by rw [z])) H locs ls h hP hS) (fun q => kf ((nI_eq ha hb).mp q) H locs ls h hP hS)
theorem qv_iflt (F : fx_ p s m args c cc nL own X) {x : Int32} {off : Int} {tgt : Nat} (hd : decode cc pc = .ok (.ifCond .lt off, 3)) (ht : (pc : Int) + off = (tgt : Int))
    (kt : x < 0 → vv_ p l e R s m args below meth c Q X nL L σ tgt st) (kf : ¬ x < 0 → vv_ p l e R s m args below meth c Q X nL L σ (pc + 3) st) : vv_ p l e R s m args below meth c Q X nL L σ pc (.int x :: st) :=
  fun H locs ls h hP hS => lv_if_lt (fx_x F) (fx_b F) hd ht (fun q => kt q H locs ls h hP hS) (fun q => kf q H locs ls h hP hS)
theorem qv_ifle (F : fx_ p s m args c cc nL own X) {a : Nat} {off : Int} {tgt : Nat} (hd : decode cc pc = .ok (.ifCond .le off, 3)) (ht : (pc : Int) + off = (tgt : Int)) (ha : a < 2 ^ 31)
    (kt : a = 0 → vv_ p l e R s m args below meth c Q X nL L σ tgt st) (kf : 0 < a → vv_ p l e R s m args below meth c Q X nL L σ (pc + 3) st) : vv_ p l e R s m args below meth c Q X nL L σ pc (.int (nI a) :: st) :=
  fun H locs ls h hP hS => lv_if_le (fx_x F) (fx_b F) hd ht (fun q => kt (Nat.le_zero.mp ((nI_leI ha (by decide)).mp (by rw [nI_0]; exact q))) H locs ls h hP hS) (fun q => kf (Nat.pos_of_ne_zero fun z => q (by rw [z, nI_0]; decide)) H locs ls h hP hS)
theorem qv_icmpgeI (F : fx_ p s m args c cc nL own X) {x y : Int32} {off : Int} {tgt : Nat} (hd : decode cc pc = .ok (.if_icmp .ge off, 3)) (ht : (pc : Int) + off = (tgt : Int))
    (kt : y ≤ x → vv_ p l e R s m args below meth c Q X nL L σ tgt st) (kf : ¬ y ≤ x → vv_ p l e R s m args below meth c Q X nL L σ (pc + 3) st) : vv_ p l e R s m args below meth c Q X nL L σ pc (.int y :: .int x :: st) :=
  fun H locs ls h hP hS => lv_icmp_ge (fx_x F) (fx_b F) hd ht (fun q => kt q H locs ls h hP hS) (fun q => kf q H locs ls h hP hS)
theorem qv_icmpgtI (F : fx_ p s m args c cc nL own X) {x y : Int32} {off : Int} {tgt : Nat} (hd : decode cc pc = .ok (.if_icmp .gt off, 3)) (ht : (pc : Int) + off = (tgt : Int))
    (kt : y < x → vv_ p l e R s m args below meth c Q X nL L σ tgt st) (kf : ¬ y < x → vv_ p l e R s m args below meth c Q X nL L σ (pc + 3) st) : vv_ p l e R s m args below meth c Q X nL L σ pc (.int y :: .int x :: st) :=
  fun H locs ls h hP hS => lv_icmp_gt (fx_x F) (fx_b F) hd ht (fun q => kt q H locs ls h hP hS) (fun q => kf q H locs ls h hP hS)
/-! cells: arrays -/
theorem qv_iald (F : fx_ p s m args c cc nL own X) (q : Nat) {n i : Nat} (hq : dz_[q]? = some (.inl (false, n))) (hi : i < n) (hn : n < 2 ^ 31) (hd : decode cc pc = .ok (.iaload, 1)) (k : vv_ p l e R s m args below meth c Q X nL L σ (pc + 1) (.int (nI (σ q i)) :: st)) : vv_ p l e R s m args below meth c Q X nL L σ pc (.int (nI i) :: .ref (adr X q) :: st) := by
  intro H locs ls h hP hS
  refine va_iald (fx_x F) (fx_b F) F.2.1 hP q 0 (wd_at hq) rfl (vp_in_nI hi hn) hd ?_
  rw [nI_clamp (by omega)]
  exact k H locs ls h hP hS
theorem qv_zald (F : fx_ p s m args c cc nL own X) (q : Nat) {n i : Nat} (hq : dz_[q]? = some (.inl (true, n))) (hi : i < n) (hn : n < 2 ^ 31) (hd : decode cc pc = .ok (.baload, 1)) (k : vv_ p l e R s m args below meth c Q X nL L σ (pc + 1) (.int (nI (σ q i)) :: st)) : vv_ p l e R s m args below meth c Q X nL L σ pc (.int (nI i) :: .ref (adr X q) :: st) := by
  intro H locs ls h hP hS
  refine va_zald (fx_x F) (fx_b F) F.2.1 hP q 1 (wd_at hq) rfl (vp_in_nI hi hn) hd ?_
  rw [nI_clamp (by omega)]
  exact k H locs ls h hP hS
theorem qv_iast (F : fx_ p s m args c cc nL own X) (q : Nat) {n i x : Nat} (hq : dz_[q]? = some (.inl (false, n))) (hi : i < n) (hn : n < 2 ^ 31) (hd : decode cc pc = .ok (.iastore, 1)) (k : vv_ p l e R s m args below meth c Q X nL L (us σ q i x) (pc + 1) st) : vv_ p l e R s m args below meth c Q X nL L σ pc (.int (nI x) :: .int (nI i) :: .ref (adr X q) :: st) := by
  intro H locs ls h hP hS
  refine va_iast (fx_x F) (fx_b F) F.2.1 hP (wd_D F.2.2.1) hS q 0 (wd_at hq) rfl (vp_in_nI hi hn) hd (fun H1 locs1 hP1 _ hS1 => ?_)
  rw [nz_upd _ (by omega)] at hP1
  exact k H1 locs1 ls h (wd_set (g := va_up (σ q) i x) hq ▸ hP1) hS1
theorem nz_nar {x : Nat} (hx : x = 0 ∨ x = 1) : vp_nar .boolean (nI x) = nI x := by rcases hx with rfl | rfl <;> decide
theorem qv_zast (F : fx_ p s m args c cc nL own X) (q : Nat) {n i x : Nat} (hq : dz_[q]? = some (.inl (true, n))) (hi : i < n) (hn : n < 2 ^ 31) (hx : x = 0 ∨ x = 1) (hd : decode cc pc = .ok (.bastore, 1)) (k : vv_ p l e R s m args below meth c Q X nL L (us σ q i x) (pc + 1) st) : vv_ p l e R s m args below meth c Q X nL L σ pc (.int (nI x) :: .int (nI i) :: .ref (adr X q) :: st) := by
  intro H locs ls h hP hS
  refine va_zast (fx_x F) (fx_b F) F.2.1 hP (wd_D F.2.2.1) hS q 1 (wd_at hq) rfl (vp_in_nI hi hn) hd (fun H1 locs1 hP1 _ hS1 => ?_)
  rw [nz_nar hx, nz_upd _ (by omega)] at hP1
  exact k H1 locs1 ls h (wd_set (g := va_up (σ q) i x) hq ▸ hP1) hS1
theorem qv_alen (F : fx_ p s m args c cc nL own X) (q : Nat) {n : Nat} (hq : dz_[q]? = some (.inl (false, n))) (hd : decode cc pc = .ok (.arraylength, 1)) (k : vv_ p l e R s m args below meth c Q X nL L σ (pc + 1) (.int (nI n) :: st)) : vv_ p l e R s m args below meth c Q X nL L σ pc (.ref (adr X q) :: st) :=
  fun H locs ls h hP hS => va_alen (fx_x F) (fx_b F) F.2.1 hP q 0 (wd_at hq) rfl rfl hd (k H locs ls h hP hS)
/-! cells: fields -/
theorem qv_getr (F : fx_ p s m args c cc nL own X) {index : Nat} {ref C : String} {T : u_T} {N ci : Nat} (hin : ∀ w ∈ u_ws C T N, w ∈ ak_) (q : Nat) {fs : List (Bool × Nat)} (hq : dz_[q]? = some (.inr (ci, fs))) (hc : cl_[ci]? = some (C, T, N)) (j : Nat) (hj : j < N) (hlink : (Cond.fieldLink own index ref (T j).2.1 (T j).2.2.1) ∈ ak_) (href : (T j).1 = ref) {r : Nat} (hv : fs[j]? = some (true, r)) (hd : decode cc pc = .ok (.getfield index, 3)) (k : vv_ p l e R s m args below meth c Q X nL L σ (pc + 3) (.ref (adr X r) :: st)) : vv_ p l e R s m args below meth c Q X nL L σ pc (.ref (adr X q) :: st) := by
  intro H locs ls h hP hS
  subst href
  exact va_get (v := .ref (adr X r)) (fx_x F) (fx_b F) F.1.2.2.2.2 hin F.1.2.2.2.1 F.2.1 hP q (wd_at hq) hc j hj (fx_t F hlink) (fun _ h => h) (by rw [List.getElem?_map, hv]; rfl) hd (k H locs ls h hP hS)
theorem qv_geti (F : fx_ p s m args c cc nL own X) {index : Nat} {ref C : String} {T : u_T} {N ci : Nat} (hin : ∀ w ∈ u_ws C T N, w ∈ ak_) (q : Nat) {fs : List (Bool × Nat)} (hq : dz_[q]? = some (.inr (ci, fs))) (hc : cl_[ci]? = some (C, T, N)) (j : Nat) (hj : j < N) (hlink : (Cond.fieldLink own index ref (T j).2.1 (T j).2.2.1) ∈ ak_) (href : (T j).1 = ref) {r : Nat} (hv : fs[j]? = some (false, r)) (hd : decode cc pc = .ok (.getfield index, 3)) (k : vv_ p l e R s m args below meth c Q X nL L σ (pc + 3) (.int (nI (σ q r)) :: st)) : vv_ p l e R s m args below meth c Q X nL L σ pc (.ref (adr X q) :: st) := by
  intro H locs ls h hP hS
  subst href
  exact va_get (v := .int (nI (σ q r))) (fx_x F) (fx_b F) F.1.2.2.2.2 hin F.1.2.2.2.1 F.2.1 hP q (wd_at hq) hc j hj (fx_t F hlink) (fun _ h => h) (by rw [List.getElem?_map, hv]; rfl) hd (k H locs ls h hP hS)
theorem qv_getrN (F : fx_ p s m args c cc nL own X) {index : Nat} {ref C host : String} {T : u_T} {N ci : Nat} (hin : ∀ w ∈ u_ws C T N, w ∈ ak_) (q : Nat) {fs : List (Bool × Nat)} (hq : dz_[q]? = some (.inr (ci, fs))) (hc : cl_[ci]? = some (C, T, N)) (j : Nat) (hj : j < N) (hlink : (Cond.fieldLinkNest own index ref (T j).2.1 (T j).2.2.1 host) ∈ nw_) (href : (T j).1 = ref) {r : Nat} (hv : fs[j]? = some (true, r)) (hd : decode cc pc = .ok (.getfield index, 3)) (k : vv_ p l e R s m args below meth c Q X nL L σ (pc + 3) (.ref (adr X r) :: st)) : vv_ p l e R s m args below meth c Q X nL L σ pc (.ref (adr X q) :: st) := by
  intro H locs ls h hP hS
  subst href
  exact va_getN (v := .ref (adr X r)) (fx_x F) (fx_b F) F.1.2.2.2.2 hin F.1.2.2.2.1 F.2.1 hP q (wd_at hq) hc j hj (fx_n F hlink) (fun _ h => h) (by rw [List.getElem?_map, hv]; rfl) hd (k H locs ls h hP hS)
theorem qv_getiN (F : fx_ p s m args c cc nL own X) {index : Nat} {ref C host : String} {T : u_T} {N ci : Nat} (hin : ∀ w ∈ u_ws C T N, w ∈ ak_) (q : Nat) {fs : List (Bool × Nat)} (hq : dz_[q]? = some (.inr (ci, fs))) (hc : cl_[ci]? = some (C, T, N)) (j : Nat) (hj : j < N) (hlink : (Cond.fieldLinkNest own index ref (T j).2.1 (T j).2.2.1 host) ∈ nw_) (href : (T j).1 = ref) {r : Nat} (hv : fs[j]? = some (false, r)) (hd : decode cc pc = .ok (.getfield index, 3)) (k : vv_ p l e R s m args below meth c Q X nL L σ (pc + 3) (.int (nI (σ q r)) :: st)) : vv_ p l e R s m args below meth c Q X nL L σ pc (.ref (adr X q) :: st) := by
  intro H locs ls h hP hS
  subst href
  exact va_getN (v := .int (nI (σ q r))) (fx_x F) (fx_b F) F.1.2.2.2.2 hin F.1.2.2.2.1 F.2.1 hP q (wd_at hq) hc j hj (fx_n F hlink) (fun _ h => h) (by rw [List.getElem?_map, hv]; rfl) hd (k H locs ls h hP hS)
end CA
theorem ii_1 (a : Nat) : nI a + Int32.ofInt 1 = nI (a + 1) := by rw [show Int32.ofInt 1 = nI 1 by decide, nI_add]
theorem bz_01 (b : Bool) : nI b.toNat = 0 ∨ nI b.toNat = 1 := by cases b <;> decide
/-- an answer, and the cells behind it -/
def ei_ (z : Int32) (τ : sg) : Option Value → sg → Prop := fun r τ' => r = some (.int z) ∧ τ' = τ
def ev_ (τ : sg) : Option Value → sg → Prop := fun r τ' => r = none ∧ τ' = τ
theorem ei_mk (z : Int32) (τ : sg) : ei_ z τ (some (.int z)) τ := ⟨rfl, rfl⟩
theorem ei_of {z z' : Int32} {τ τ' : sg} (h : z = z') (h2 : τ = τ') : ei_ z' τ' (some (.int z)) τ := ⟨by rw [h], h2⟩
theorem ev_of {τ τ' : sg} (h2 : τ = τ') : ev_ τ' none τ := ⟨rfl, h2⟩
/-! ints that lie within -/
def wi_ (x : Int32) (n : Nat) : Bool := decide (0 ≤ x.toInt ∧ x.toInt < n)
def tn_ (x : Int32) : Nat := x.toNatClampNeg
theorem tn_nI {j : Nat} (h : j < 2 ^ 31) : tn_ (nI j) = j := nI_clamp h
theorem wi_neg {x : Int32} {n : Nat} (h : x < 0) : wi_ x n = false := by
  have h1 : x.toInt < (0 : Int32).toInt := Int32.lt_iff_toInt_lt.mp h
  have h2 : (0 : Int32).toInt = 0 := by decide
  unfold wi_
  rw [decide_eq_false_iff_not]
  omega
theorem wi_ge {x : Int32} {n : Nat} (hn : n < 2 ^ 31) (h : nI n ≤ x) : wi_ x n = false := by
  have h1 : (nI n).toInt ≤ x.toInt := Int32.le_iff_toInt_le.mp h
  rw [nI_toInt hn] at h1
  unfold wi_
  rw [decide_eq_false_iff_not]
  omega
theorem wi_in {x : Int32} {n : Nat} (hn : n < 2 ^ 31) (h0 : ¬ x < 0) (h : ¬ nI n ≤ x) : wi_ x n = true := by
  have h1 : ¬ (nI n).toInt ≤ x.toInt := fun q => h (Int32.le_iff_toInt_le.mpr q)
  have h2 : ¬ x.toInt < (0 : Int32).toInt := fun q => h0 (Int32.lt_iff_toInt_lt.mpr q)
  have h3 : (0 : Int32).toInt = 0 := by decide
  rw [nI_toInt hn] at h1
  unfold wi_
  rw [decide_eq_true_eq]
  omega
theorem wi_t {x : Int32} {n : Nat} (hn : n < 2 ^ 31) (h : wi_ x n = true) : ∃ j : Nat, j < n ∧ x = nI j := by
  unfold wi_ at h
  rw [decide_eq_true_eq] at h
  exact vp_in_of (vp_in_iff.mpr h) hn
theorem wi_nI {j n : Nat} (hj : j < 2 ^ 31) : wi_ (nI j) n = decide (j < n) := by
  unfold wi_
  rw [nI_toInt hj]
  congr 1
  apply propext
  omega
theorem wi_y {j n : Nat} (hn : n < 2 ^ 31) (h : j < n) : wi_ (nI j) n = true := by
  rw [wi_nI (by omega)]
  exact decide_eq_true h
theorem bt_and (a b : Nat) : (a / 2 ^ b &&& 1) = (a.testBit b).toNat := by
  rw [Nat.and_one_is_mod, Nat.testBit_eq_decide_div_mod_eq]
  by_cases h : a / 2 ^ b % 2 = 1
  · rw [decide_eq_true h]; exact h
  · rw [decide_eq_false h]
    show a / 2 ^ b % 2 = 0
    omega
def fo_ (fs : List (Bool × Nat)) : Bool := (List.range fs.length).all (fun k => (fs[k]?).all (fun q => q.1 || q.2 == k))
theorem cf_set {X : wX} {g : Nat → Nat} {fs : List (Bool × Nat)} {j x : Nat} (hfs : fo_ fs = true) (hj : fs[j]? = some (false, j)) : (fs.map (cf_ X g)).set j (.int (nI x)) = fs.map (cf_ X (va_up g j x)) := by
  apply List.ext_getElem?
  intro i
  by_cases hi : j = i
  · subst hi
    rw [List.getElem?_set_self (by rw [List.length_map]; exact (List.getElem?_eq_some_iff.mp hj).1), List.getElem?_map, hj]
    simp [cf_, up_eq]
  · rw [List.getElem?_set_ne hi, List.getElem?_map, List.getElem?_map]
    cases hf : fs[i]? with
    | none => rfl
    | some q =>
      obtain ⟨b, r⟩ := q
      have h1 := List.all_eq_true.mp hfs i (List.mem_range.mpr (List.getElem?_eq_some_iff.mp hf).1)
      rw [hf] at h1
      cases b with
      | true => rfl
      | false =>
        have h2 : r = i := by simpa using h1
        subst h2
        simp [cf_, up_ne (fun z : r = j => hi z.symm)]
theorem ce_set {X : wX} {σ : sg} {q ci : Nat} {fs : List (Bool × Nat)} {j x : Nat} (hq : dz_[q]? = some (.inr (ci, fs))) (hfs : fo_ fs = true) (hj : fs[j]? = some (false, j)) : (wd_ X σ).set q (adr X q, .inr (ci, (fs.map (cf_ X (σ q))).set j (.int (nI x)))) = wd_ X (us σ q j x) := by
  rw [cf_set hfs hj]
  exact wd_set (X := X) (σ := σ) (k := q) (d := .inr (ci, fs)) (g := va_up (σ q) j x) hq
section CB
variable {p : Program} {l : Launch} {e : Env} {R : Room} {s : State} {m : MethodId} {args : Array Value} {below : List Frame} {meth : Method} {c : Code} {Q : State → Prop}
variable {X : wX} {nL : Nat} {L : List (Nat × Value)} {σ : sg} {pc : Nat} {st : List Value} {cc : ByteArray} {own : String}
theorem qv_put (F : fx_ p s m args c cc nL own X) {index : Nat} {ref C : String} {T : u_T} {N ci : Nat} (hin : ∀ w ∈ u_ws C T N, w ∈ ak_) (ty0 : Nat → FieldType) (hty : ∀ k, k < N → parseFieldDescriptor (T k).2.2.1 = some (ty0 k)) (hnm : ∀ a, a < N → ∀ b, b < N → a ≠ b → (T a).2.1 ≠ (T b).2.1) (q : Nat) {fs : List (Bool × Nat)} (hq : dz_[q]? = some (.inr (ci, fs))) (hfs : fo_ fs = true) (hc : cl_[ci]? = some (C, T, N)) (j : Nat) (hj : j < N) (hlink : (Cond.fieldLink own index ref (T j).2.1 (T j).2.2.1) ∈ ak_) (href : (T j).1 = ref) (hfin : (T j).2.2.2 = false) {ty : FieldType} (hdd : parseFieldDescriptor (T j).2.2.1 = some ty) (hv : fs[j]? = some (false, j)) {x : Nat} (hn : narrow ty (.int (nI x)) = .int (nI x)) (hfit : fits ty (.int (nI x)) = true) (hd : decode cc pc = .ok (.putfield index, 3)) (k : vv_ p l e R s m args below meth c Q X nL L (us σ q j x) (pc + 3) st) : vv_ p l e R s m args below meth c Q X nL L σ pc (.int (nI x) :: .ref (adr X q) :: st) := by
  intro H locs ls h hP hS
  subst href
  refine va_put (v := .int (nI x)) (ty := ty) (fx_x F) (fx_b F) F.1.2.2.2.2 hin ty0 hty hnm F.1.2.2.2.1 F.2.1 hP (wd_D F.2.2.1) hS q (wd_at hq) hc j hj (fx_t F hlink) (fun _ h => h) hfin hdd hn hfit (by rw [List.length_map]; exact (List.getElem?_eq_some_iff.mp hv).1) hd (fun H1 locs1 hP1 _ hS1 => ?_)
  exact k H1 locs1 ls h (ce_set hq hfs hv ▸ hP1) hS1
/-! calls -/
theorem qv_run {st0 rest : List Value} {P : Option Value → sg → Prop} {a : Array Value} (hr : ∀ (H : Heap) (locs : List Loc) (ls : Array Slot), ls.size = nL → va_P X.1 cl_ (wd_ X σ) H → va_S (aw_ X) s.heap H locs → va_Run p l e R s m args below meth c H locs R.cells R.slots 0 0 (F0 m pc ls st0) rest (mq_ X P a) (aw_ X))
    (k : ∀ (r : Option Value) (τ : sg), P r τ → vv_ p l e R s m args below meth c Q X nL L τ (pc + 3) (r.toList ++ rest)) : vv_ p l e R s m args below meth c Q X nL L σ pc st0 := by
  intro H locs ls hl hP hS T hT Xs
  obtain ⟨v, st₀, t, T', L', h0, X', hL, e1, e2, ⟨⟨r, τ, hv, hp, hb⟩, hz, hk⟩, stp⟩ := hr H locs ls hl.1 hP hS T hT Xs
  cases hv
  rw [h0] at hz hk
  obtain ⟨t2, a1, b1⟩ := k v τ hp T'.heap (locs ++ L') ls hl (by rw [e1]; exact hb)
    ⟨Nat.le_trans hS.1 (by rw [e1]; exact hz), fun q h1 h2 => by rw [e1, hk q (Nat.lt_of_lt_of_le h1 hS.1) h2]; exact hS.2.1 q h1 h2, fun q hq => by
      rcases List.mem_append.mp hq with h | h
      · exact hS.2.2 q h
      · exact hL q h⟩ T' rfl X'
  exact ⟨t2, stp t2 a1, b1⟩
theorem mt_blind {as : List Value} : FrameBlind (va_Pc as (fun U => fz_ X U U.heap ∧ va_P X.1 cl_ (wd_ X σ) U.heap)) := by
  intro a U g mk q
  obtain ⟨q0, q1, q2⟩ := q
  exact ⟨q0, fz_same (U := U.calling g mk a) q1 rfl, q2⟩
theorem mt_preS (F : fx_ p s m args c cc nL own X) {as : List Value} {H : Heap} {locs : List Loc} (hP : va_P X.1 cl_ (wd_ X σ) H) (hS : va_S (aw_ X) s.heap H locs) : PreS s H (va_Pc as (fun U => fz_ X U U.heap ∧ va_P X.1 cl_ (wd_ X σ) U.heap)) as :=
  ⟨mt_blind, fun U hU hW => ⟨rfl, by rw [hU]; exact fz_moved F.2 hW hS, by rw [hU]; exact hP⟩⟩
theorem ak_good (y : MethodName) (b : ByteArray) (n : Nat) (r : Option FieldType) (h : Cond.code y b n r ∈ ak_) : GoodIn ak_ (wz_ y b n r) := by
  intro w hw
  rcases List.mem_cons.mp hw with h1 | h1
  · subst h1; exact ⟨h, ak_ok _ h⟩
  · exact ⟨h1, ak_ok _ h1⟩
theorem qv_callS (F : fx_ p s m args c cc nL own X) {y : MethodName} {bytes : ByteArray} {maxL index d n : Nat} {ret : Option FieldType} {as rest : List Value} {P : Option Value → sg → Prop} (hcode : Cond.code y bytes maxL ret ∈ ak_) (hl : Cond.methodLink own index y ∈ ak_) (hst : Cond.static y ∈ ak_) (hini : Cond.initialized y.cls ∈ ak_)
    (hy : y.cls ≠ "java/lang/invoke/MethodHandle" ∧ y.cls ≠ "java/lang/invoke/VarHandle" ∧ (parseMethodDescriptor y.desc).map (fun d => d.parameters.length) = some n) (hM : mt_ l X y (wz_ y bytes maxL ret) d as σ P) (hn : as.length = n) (hR : d + 1 ≤ R.frames ∧ 8 + (maxL + 11) + 30 * d ≤ R.locals) (hw : (rest.map fun v => v.category).sum ≤ 8) (hd : decode cc pc = .ok (.invokestatic index, 3))
    (k : ∀ (r : Option Value) (τ : sg), P r τ → vv_ p l e R s m args below meth c Q X nL L τ (pc + 3) (r.toList ++ rest)) : vv_ p l e R s m args below meth c Q X nL L σ pc (as.reverse ++ rest) :=
  qv_run (a := as.toArray) (fun H locs ls hsz hP hS => va_runS (nL := nL) (n := n) (maxL := maxL) (ret := ret) (bytes := bytes) (ws := wz_ y bytes maxL ret) F.1 hM ⟨callB_of n F.1.2.2.2.2 (ak_good y bytes maxL ret hcode) rfl rfl rfl (fx_t F hini) (fx_t F hl) hy hR, fx_t F hst⟩ (mt_preS F hP hS) rfl hn hsz rfl (lv_room hw) hd ⟨Nat.le_refl _, Nat.le_refl _⟩) k
theorem qv_callSN (F : fx_ p s m args c cc nL own X) {y : MethodName} {host : String} {bytes : ByteArray} {maxL index d n : Nat} {ret : Option FieldType} {as rest : List Value} {P : Option Value → sg → Prop} (hcode : Cond.code y bytes maxL ret ∈ ak_) (hl : Cond.methodLinkNest own index y host ∈ nw_) (hst : Cond.static y ∈ ak_) (hini : Cond.initialized y.cls ∈ ak_)
    (hy : y.cls ≠ "java/lang/invoke/MethodHandle" ∧ y.cls ≠ "java/lang/invoke/VarHandle" ∧ (parseMethodDescriptor y.desc).map (fun d => d.parameters.length) = some n) (hM : mt_ l X y (wz_ y bytes maxL ret) d as σ P) (hn : as.length = n) (hR : d + 1 ≤ R.frames ∧ 8 + (maxL + 11) + 30 * d ≤ R.locals) (hw : (rest.map fun v => v.category).sum ≤ 8) (hd : decode cc pc = .ok (.invokestatic index, 3))
    (k : ∀ (r : Option Value) (τ : sg), P r τ → vv_ p l e R s m args below meth c Q X nL L τ (pc + 3) (r.toList ++ rest)) : vv_ p l e R s m args below meth c Q X nL L σ pc (as.reverse ++ rest) :=
  qv_run (a := as.toArray) (fun H locs ls hsz hP hS => va_runSN (nL := nL) (n := n) (maxL := maxL) (ret := ret) (bytes := bytes) (host := host) (ws := wz_ y bytes maxL ret) F.1 hM ⟨va_cnB n F.1.2.2.2.2 (ak_good y bytes maxL ret hcode) rfl rfl rfl (F.2.2.2.1 _ hl) (fx_t F hini) hy hR, fx_t F hst, trivial⟩ (mt_preS F hP hS) rfl hn hsz rfl (lv_room hw) hd ⟨Nat.le_refl _, Nat.le_refl _⟩) k
theorem qv_callV (F : fx_ p s m args c cc nL own X) {y : MethodName} {bytes : ByteArray} {maxL index d n : Nat} {ret : Option FieldType} {as rest : List Value} {P : Option Value → sg → Prop} (q : Nat) {ci N : Nat} {T : u_T} {fs : List (Bool × Nat)} (hq : dz_[q]? = some (.inr (ci, fs))) (hc : cl_[ci]? = some (y.cls, T, N)) (hcode : Cond.code y bytes maxL ret ∈ ak_) (hl : Cond.methodLink own index y ∈ ak_) (hin : Cond.instanceMethod y ∈ ak_) (hse : Cond.selects y.cls y y ∈ ak_) (hini : Cond.initialized y.cls ∈ ak_)
    (hy : y.cls ≠ "java/lang/invoke/MethodHandle" ∧ y.cls ≠ "java/lang/invoke/VarHandle" ∧ (parseMethodDescriptor y.desc).map (fun d => d.parameters.length) = some n) (hM : mt_ l X y (wz_ y bytes maxL ret) d (.ref (adr X q) :: as) σ P) (hn : as.length = n) (hR : d + 1 ≤ R.frames ∧ 8 + (maxL + 11) + 30 * d ≤ R.locals) (hw : (rest.map fun v => v.category).sum ≤ 8) (hd : decode cc pc = .ok (.invokevirtual index, 3))
    (k : ∀ (r : Option Value) (τ : sg), P r τ → vv_ p l e R s m args below meth c Q X nL L τ (pc + 3) (r.toList ++ rest)) : vv_ p l e R s m args below meth c Q X nL L σ pc (as.reverse ++ .ref (adr X q) :: rest) :=
  qv_run (a := (Value.ref (adr X q) :: as).toArray) (fun H locs ls hsz hP hS => va_runV (nL := nL) (n := n) (maxL := maxL) (ret := ret) (bytes := bytes) (C := y.cls) (ws := wz_ y bytes maxL ret) F.1 hM ⟨callB_of n F.1.2.2.2.2 (ak_good y bytes maxL ret hcode) rfl rfl rfl (fx_t F hini) (fx_t F hl) hy hR, fx_t F hin, fx_t F hse⟩ ⟨(mt_preS F hP hS (as := .ref (adr X q) :: as)).1, va_recv F.2.1 hP hc (wd_at hq), (mt_preS F hP hS (as := .ref (adr X q) :: as)).2⟩ rfl hn hsz rfl (lv_room hw) hd ⟨Nat.le_refl _, Nat.le_refl _⟩) k
/-! loops -/
theorem lu_up {α : Type} (P : Nat → α → Prop) (I : Nat → α → Prop) (n : Nat) (hx : ∀ a, I n a → P n a) (hs : ∀ i a, i < n → I i a → (∀ b, I (i + 1) b → P (i + 1) b) → P i a) : ∀ i a, i ≤ n → I i a → P i a := by
  intro i a hi hI
  obtain ⟨k, hk⟩ : ∃ k, n = i + k := ⟨n - i, by omega⟩
  induction k generalizing i a with
  | zero => obtain rfl : n = i := hk; exact hx a hI
  | succ k ih => exact hs i a (by omega) hI (fun b hb => ih (i + 1) b (by omega) hb (by omega))
end CB
theorem ua_ua (σ : sg) (a : Nat) (g h : Nat → Nat) : ua (ua σ a g) a h = ua σ a h := by
  funext b
  by_cases e : b = a
  · subst e; rw [ua_eq, ua_eq]
  · rw [ua_ne e, ua_ne e, ua_ne e]
theorem us_ua (σ : sg) (a : Nat) (g : Nat → Nat) (i x : Nat) : us (ua σ a g) a i x = ua σ a (va_up g i x) := by
  unfold us
  rw [ua_ua, ua_eq]
section CX
variable {p : Program} {l : Launch} {e : Env} {R : Room} {s : State} {m : MethodId} {args : Array Value} {below : List Frame} {meth : Method} {c : Code} {Q : State → Prop}
variable {X : wX} {nL : Nat} {L : List (Nat × Value)} {σ : sg} {pc : Nat} {st : List Value}
theorem arr_to (cA : ClassId) {n : Nat} {f g : Nat → Value} (h : ∀ k, k < n → f k = g k) : arrV cA n f = arrV cA n g := by
  unfold arrV
  congr 1
  congr 1
  funext j
  exact h j.val j.isLt
/-- only the places below the length count -/
theorem wd_ext {X : wX} {σ : sg} {q n : Nat} {z : Bool} {g : Nat → Nat} {H : Heap} (hq : dz_[q]? = some (.inl (z, n))) (hg : ∀ k, k < n → g k = σ q k) (hP : va_P X.1 cl_ (wd_ X σ) H) : va_P X.1 cl_ (wd_ X (ua σ q g)) H := by
  intro k w hw
  by_cases e : k = q
  · subst e
    have h1 := hP k _ (wd_at hq)
    have h2 : (wd_ X (ua σ k g))[k]? = some (adr X k, ce_ X (.inl (z, n)) g) := by rw [wd_at hq, ua_eq]
    rw [h2] at hw
    cases hw
    show H[adr X k]? = some (vp_cell (cz_ X z) (n, .inl (fun j => nI (g j))))
    have h3 : H[adr X k]? = some (vp_cell (cz_ X z) (n, .inl (fun j => nI (σ k j)))) := h1
    rw [h3, vp_cell_i, vp_cell_i]
    exact congrArg some (arr_to _ (fun j hj => by rw [hg j hj]))
  · have h2 : (wd_ X (ua σ q g))[k]? = (wd_ X σ)[k]? := by
      unfold wd_
      rw [List.getElem?_mapIdx, List.getElem?_mapIdx, ua_ne e]
    rw [h2] at hw
    exact hP k w hw
theorem qv_ext (q : Nat) {n : Nat} {z : Bool} {g : Nat → Nat} (hq : dz_[q]? = some (.inl (z, n))) (hg : ∀ k, k < n → g k = σ q k) (k : vv_ p l e R s m args below meth c Q X nL L (ua σ q g) pc st) : vv_ p l e R s m args below meth c Q X nL L σ pc st :=
  fun H locs ls h hP hS => k H locs ls h (wd_ext hq hg hP) hS
end CX
section CW
variable {p : Program} {l : Launch} {e : Env} {R : Room} {s : State} {m : MethodId} {args : Array Value} {below : List Frame} {meth : Method} {c : Code} {Q : State → Prop}
variable {X : wX} {nL : Nat} {L : List (Nat × Value)} {σ : sg} {pc : Nat} {st : List Value} {cc : ByteArray} {own : String}
theorem qv_tsw (F : fx_ p s m args c cc nL own X) {dflt lo hi : Int} {offs : Array Int} {len a : Nat} (hd : decode cc pc = .ok (.tableswitch dflt lo hi offs, len)) (ha : a < 2 ^ 31) (h1 : ¬ (a : Int) < lo) (h2 : ¬ hi < (a : Int)) {off : Int} {tgt : Nat} (ho : offs[((a : Int) - lo).toNat]? = some off) (ht : (pc : Int) + off = (tgt : Int)) (k : vv_ p l e R s m args below meth c Q X nL L σ tgt st) : vv_ p l e R s m args below meth c Q X nL L σ pc (.int (nI a) :: st) :=
  fun H locs ls h hP hS => lv_tableIn (fx_x F) (fx_b F) hd (by rw [nI_toInt ha]; exact h1) (by rw [nI_toInt ha]; exact h2) (by rw [nI_toInt ha]; exact ho) ht (k H locs ls h hP hS)
theorem qv_tswO (F : fx_ p s m args c cc nL own X) {dflt lo hi : Int} {offs : Array Int} {len a : Nat} (hd : decode cc pc = .ok (.tableswitch dflt lo hi offs, len)) (ha : a < 2 ^ 31) (h1 : (a : Int) < lo ∨ hi < (a : Int)) {tgt : Nat} (ht : (pc : Int) + dflt = (tgt : Int)) (k : vv_ p l e R s m args below meth c Q X nL L σ tgt st) : vv_ p l e R s m args below meth c Q X nL L σ pc (.int (nI a) :: st) :=
  fun H locs ls h hP hS => lv_tableOut (fx_x F) (fx_b F) hd (by rw [nI_toInt ha]; exact h1) ht (k H locs ls h hP hS)
theorem qv_tswI (F : fx_ p s m args c cc nL own X) {dflt lo hi : Int} {offs : Array Int} {len : Nat} {x : Int32} (hd : decode cc pc = .ok (.tableswitch dflt lo hi offs, len)) (h1 : x.toInt < lo ∨ hi < x.toInt) {tgt : Nat} (ht : (pc : Int) + dflt = (tgt : Int)) (k : vv_ p l e R s m args below meth c Q X nL L σ tgt st) : vv_ p l e R s m args below meth c Q X nL L σ pc (.int x :: st) :=
  fun H locs ls h hP hS => lv_tableOut (fx_x F) (fx_b F) hd h1 ht (k H locs ls h hP hS)
theorem qv_lsw (F : fx_ p s m args c cc nL own X) {dflt : Int} {ps : Array (Int × Int)} {len : Nat} {x : Int32} (hd : decode cc pc = .ok (.lookupswitch dflt ps, len)) (hp : (ps.toList.zip (ps.toList.drop 1)).all (fun (a, next) => a.1 < next.1) = true) {off : Int} {tgt : Nat} (ho : Op.lookupswitch.offset ps.toList dflt x.toInt = off) (ht : (pc : Int) + off = (tgt : Int)) (k : vv_ p l e R s m args below meth c Q X nL L σ tgt st) : vv_ p l e R s m args below meth c Q X nL L σ pc (.int x :: st) :=
  fun H locs ls h hP hS => lv_lookup (fx_x F) (fx_b F) hd hp ho ht (k H locs ls h hP hS)
end CW
