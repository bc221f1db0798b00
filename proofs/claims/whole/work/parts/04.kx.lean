/-! kx: my own rows over the kit's: one table of words for all contracts, one world hypothesis, contracts of one form -/
def kx_N (U : State) : Prop := (∀ w ∈ kx_nl, va_Nw w U) ∧ va_AO "RebornDrivers$Operation" U
theorem kx_N.same {u U : State} (h : u.vm = U.vm) (hN : kx_N u) : kx_N U := by
  refine ⟨fun w hw => ?_, va_AO.moved (by rw [h]; exact Vm.Alike.refl U.vm) hN.2⟩
  have h1 := hN.1 w hw
  have h2 : kx_isN w = true := (List.mem_filter.mp hw).2
  cases w <;> first | (simp [kx_isN] at h2; done) | exact va_tabs rfl h h1
theorem kx_N.warm {s U : State} (hN : kx_N s) (hW : s.WarmedH U.vm) : kx_N U := by
  refine ⟨fun w hw => ?_, va_AO.moved hW.alike hN.2⟩
  have h1 := hN.1 w hw
  have h2 : kx_isN w = true := (List.mem_filter.mp hw).2
  cases w <;> first | (simp [kx_isN] at h2; done) | exact va_Nw.warmF hW h1 | exact va_Nw.warmM hW h1
def kx_w (D : va_G) (tys : List (ClassId × FieldType)) (A : Nat → Prop) (s : State) (ws : va_W) (H : Heap) (locs : List Loc) : Prop :=
  va_K D classes tys s ∧ va_P D classes ws H ∧ va_D A ws ∧ va_S A s.heap H locs ∧ (∀ q, s.heap.size ≤ q → A q) ∧ kx_N s
/-- a field that code of class 'own' reads under 'index': field k of class ci -/
def kx_f (own : String) (index ci k : Nat) : Prop := ∃ (C : String) (T : u_T) (N : Nat), classes[ci]? = some (C, T, N) ∧ k < N ∧ (∀ w ∈ u_ws C T N, w ∈ kx_tbl) ∧ (Cond.fieldLink own index (T k).1 (T k).2.1 (T k).2.2.1 ∈ kx_tbl ∨ ∃ host, Cond.fieldLinkNest own index (T k).1 (T k).2.1 (T k).2.2.1 host ∈ kx_nl)
/-- and writes -/
def kx_q (own : String) (index ci k : Nat) (ty : FieldType) : Prop := ∃ (C : String) (T : u_T) (N : Nat) (ty0 : Nat → FieldType), classes[ci]? = some (C, T, N) ∧ k < N ∧ (∀ w ∈ u_ws C T N, w ∈ kx_tbl) ∧ (Cond.fieldLink own index (T k).1 (T k).2.1 (T k).2.2.1 ∈ kx_tbl ∨ ∃ host, Cond.fieldLinkNest own index (T k).1 (T k).2.1 (T k).2.2.1 host ∈ kx_nl) ∧ (∀ k, k < N → parseFieldDescriptor (T k).2.2.1 = some (ty0 k)) ∧ (∀ a, a < N → ∀ b, b < N → a ≠ b → (T a).2.1 ≠ (T b).2.1) ∧ (T k).2.2.2 = false ∧ parseFieldDescriptor (T k).2.2.1 = some ty
/-- a final field that a constructor of class 'own' writes -/
def kx_qF (own : String) (index ci k : Nat) (ty : FieldType) : Prop := ∃ (C : String) (T : u_T) (N : Nat) (ty0 : Nat → FieldType), classes[ci]? = some (C, T, N) ∧ k < N ∧ (∀ w ∈ u_ws C T N, w ∈ kx_tbl) ∧ Cond.fieldLink own index (T k).1 (T k).2.1 (T k).2.2.1 ∈ kx_tbl ∧ (∀ k, k < N → parseFieldDescriptor (T k).2.2.1 = some (ty0 k)) ∧ (∀ a, a < N → ∀ b, b < N → a ≠ b → (T a).2.1 ≠ (T b).2.1) ∧ (T k).2.2.2 = true ∧ parseFieldDescriptor (T k).2.2.1 = some ty ∧ (T k).1 = own
/-- an object that code of class 'own' makes under 'index' -/
def kx_n (own : String) (index ci : Nat) (fs : List Value) : Prop := ∃ (C : String) (T : u_T) (ty0 : Nat → FieldType), classes[ci]? = some (C, T, fs.length) ∧ (∀ w ∈ u_ws C T fs.length, w ∈ kx_tbl) ∧ (∀ k, k < fs.length → parseFieldDescriptor (T k).2.2.1 = some (ty0 k)) ∧ Cond.classLink own index C ∈ kx_tbl ∧ Cond.instantiable C fs.length ∈ kx_tbl ∧ Cond.initialized C ∈ kx_tbl ∧ ∀ j, j < fs.length → defaultValue (ty0 j) = vp_V fs j
/-- a method that code of class 'own' calls under 'index' -/
def kx_m (own : String) (index : Nat) (y : MethodName) (bytes : ByteArray) (maxL : Nat) (ret : Option FieldType) (n : Nat) : Prop :=
  Cond.code y bytes maxL ret ∈ kx_tbl ∧ Cond.initialized y.cls ∈ kx_tbl ∧ (y.cls ≠ "java/lang/invoke/MethodHandle" ∧ y.cls ≠ "java/lang/invoke/VarHandle" ∧ (parseMethodDescriptor y.desc).map (fun d => d.parameters.length) = some n) ∧ (Cond.methodLink own index y ∈ kx_tbl ∨ ∃ host, Cond.methodLinkNest own index y host ∈ kx_nl)
theorem kx_good {y : MethodName} {bytes : ByteArray} {maxL : Nat} {ret : Option FieldType} (h : Cond.code y bytes maxL ret ∈ kx_tbl) : GoodIn kx_tbl (Cond.code y bytes maxL ret :: kx_tbl) := by
  intro w hw
  rcases List.mem_cons.mp hw with rfl | hw
  · exact ⟨h, kx_tbl_good _ h⟩
  · exact ⟨hw, kx_tbl_good _ hw⟩
theorem kx_w.sub {D : va_G} {tys : List (ClassId × FieldType)} {A : Nat → Prop} {s : State} {ws ws' : va_W} {H : Heap} {locs : List Loc} (h : kx_w D tys A s ws H locs) (is : List Nat) (hn : va_nd is = true) (hs : is.map (fun i => ws[i]?) = ws'.map some) : kx_w D tys A s ws' H locs := by
  refine ⟨h.1, h.2.1.sub is ?_, h.2.2.1.sub is hn hs, h.2.2.2⟩
  have : ∀ (l : List Nat) (w : va_W), l.map (fun i => ws[i]?) = w.map some → l.filterMap (fun i => ws[i]?) = w := by
    intro l
    induction l with
    | nil => intro w h; cases w with
      | nil => rfl
      | cons x w => cases h
    | cons i l ih => intro w h; cases w with
      | nil => cases h
      | cons x w =>
        simp only [List.map_cons, List.cons.injEq] at h
        rw [List.filterMap_cons, h.1, ih w h.2]
  exact this is ws' hs
/-- contracts -/
def kx_Pre (D : va_G) (tys : List (ClassId × FieldType)) (av : List Value) (ws : va_W) (sz : Nat) : Array Value → State → Prop := va_Pc av (fun U => U.heap.size = sz ∧ va_P D classes ws U.heap ∧ va_K D classes tys U ∧ va_D (fun _ => True) ws ∧ kx_N U)
def kx_B (D : va_G) (tys : List (ClassId × FieldType)) (A : Nat → Prop) (w : va_W) (t : State) : Prop := va_P D classes w t.heap ∧ va_K D classes tys t ∧ va_D A w
def kx_R (k mc ms : Nat) : Room := { frames := k, cells := mc, slots := ms, locals := 24 * k }
def kx_Ci {S : Type} (l : Launch) (y : MethodName) (bytes : ByteArray) (maxL : Nat) (ret : Option FieldType) (k mc ms : Nat) (D : va_G) (tys : List (ClassId × FieldType)) (av : List Value) (ws : va_W) (post : Int32 → S → Prop) (w1 : S → va_W) : Prop :=
  ∀ sz, Met l y (Cond.code y bytes maxL ret :: kx_tbl) (kx_R k mc ms) (kx_Pre D tys av ws sz) (va_Qi post (fun u t => kx_B D tys (va_A ws sz) (w1 u) t) (va_A ws sz)) mc ms (va_A ws sz)
def kx_Cv {S : Type} (l : Launch) (y : MethodName) (bytes : ByteArray) (maxL : Nat) (k mc ms : Nat) (D : va_G) (tys : List (ClassId × FieldType)) (av : List Value) (ws : va_W) (post : S → Prop) (w1 : S → va_W) : Prop :=
  ∀ sz, Met l y (Cond.code y bytes maxL none :: kx_tbl) (kx_R k mc ms) (kx_Pre D tys av ws sz) (va_Qv post (fun u t => kx_B D tys (va_A ws sz) (w1 u) t) (va_A ws sz)) mc ms (va_A ws sz)
def kx_Cr {S : Type} (l : Launch) (y : MethodName) (bytes : ByteArray) (maxL : Nat) (ret : Option FieldType) (k mc ms : Nat) (D : va_G) (tys : List (ClassId × FieldType)) (av : List Value) (ws : va_W) (post : S → Prop) (ra : S → Nat) (w1 : S → va_W) : Prop :=
  ∀ sz, Met l y (Cond.code y bytes maxL ret :: kx_tbl) (kx_R k mc ms) (kx_Pre D tys av ws sz) (va_Qr post (fun u a t => a = ra u ∧ kx_B D tys (va_A ws sz) (w1 u) t) (va_A ws sz)) mc ms (va_A ws sz)
/-- what a walk starts with -/
def kx_In (p : Program) (s : State) (m : MethodId) (args : Array Value) (meth : Method) (c : Code) (y : MethodName) (bytes : ByteArray) (maxL : Nat) (ret : Option FieldType) : Prop :=
  CallFix p m c bytes maxL s args kx_tbl y.cls ∧ meth.sig.returnType = ret ∧ meth.locks = false ∧ meth.name = y.name
theorem kx_enter {l : Launch} {y : MethodName} {bytes : ByteArray} {maxL : Nat} {ret : Option FieldType} {rm : Room} {mc ms : Nat} {D : va_G} {tys : List (ClassId × FieldType)} {av : List Value} {ws : va_W} {Qf : (Nat → Prop) → Array Value → State → Outcome → State → Prop} (hy : plainName y.cls = true) (hlen : (lg_sl av).length ≤ maxL)
    (body : ∀ p e s m below meth c ls A H, kx_In p s m av.toArray meth c y bytes maxL ret → lv_has ls maxL (lv_args 0 av) → kx_w D tys A s ws H [] →
      W p l e rm s m av.toArray below meth c H [] 0 0 (MQ below (Qf A) av.toArray s mc ms A) (F0 m 0 ls [])) (sz : Nat) :
    Met l y (Cond.code y bytes maxL ret :: kx_tbl) rm (kx_Pre D tys av ws sz) (Qf (va_A ws sz)) mc ms (va_A ws sz) := by
  refine Met.ofW (cc := bytes) (maxL := maxL) (ret := ret) hy rfl ?_
  intro p e s m args below meth c s₁ B hml hv
  obtain ⟨rfl, hsz, hP, hK, hD0, hN0⟩ := hv
  have hts := atoms_spec (ws := Cond.code y bytes maxL ret :: kx_tbl) B.pre
  subst hsz
  have hl := lv_entry av (n := maxL) hlen
  rw [lg_entry_eq]
  exact body p e s m below meth c _ _ s.heap ⟨⟨B.exec, B.bytes, hml, findClass_of_methodNamed B.named, fun w hw => hts w (List.mem_cons_of_mem _ hw)⟩, B.returns, B.notSynchronized, (name_of_methodNamed B.named B.method).1⟩ hl ⟨hK, hP, hD0.self, va_S.rf, fun q h => Or.inr h, hN0⟩
theorem kx_enter_i {S : Type} {l : Launch} {y : MethodName} {bytes : ByteArray} {maxL : Nat} {ret : Option FieldType} {k mc ms : Nat} {D : va_G} {tys : List (ClassId × FieldType)} {av : List Value} {ws : va_W} {post : Int32 → S → Prop} {w1 : S → va_W} (hy : plainName y.cls = true) (hlen : (lg_sl av).length ≤ maxL)
    (body : ∀ p e s m below meth c ls A H, kx_In p s m av.toArray meth c y bytes maxL ret → lv_has ls maxL (lv_args 0 av) → kx_w D tys A s ws H [] →
      W p l e (kx_R k mc ms) s m av.toArray below meth c H [] 0 0 (MQ below (va_Qi post (fun u t => kx_B D tys A (w1 u) t) A) av.toArray s mc ms A) (F0 m 0 ls [])) : kx_Ci l y bytes maxL ret k mc ms D tys av ws post w1 :=
  fun sz => kx_enter (Qf := fun A => va_Qi post (fun u t => kx_B D tys A (w1 u) t) A) hy hlen body sz
theorem kx_enter_v {S : Type} {l : Launch} {y : MethodName} {bytes : ByteArray} {maxL : Nat} {k mc ms : Nat} {D : va_G} {tys : List (ClassId × FieldType)} {av : List Value} {ws : va_W} {post : S → Prop} {w1 : S → va_W} (hy : plainName y.cls = true) (hlen : (lg_sl av).length ≤ maxL)
    (body : ∀ p e s m below meth c ls A H, kx_In p s m av.toArray meth c y bytes maxL none → lv_has ls maxL (lv_args 0 av) → kx_w D tys A s ws H [] →
      W p l e (kx_R k mc ms) s m av.toArray below meth c H [] 0 0 (MQ below (va_Qv post (fun u t => kx_B D tys A (w1 u) t) A) av.toArray s mc ms A) (F0 m 0 ls [])) : kx_Cv l y bytes maxL k mc ms D tys av ws post w1 :=
  fun sz => kx_enter (Qf := fun A => va_Qv post (fun u t => kx_B D tys A (w1 u) t) A) hy hlen body sz
theorem kx_enter_r {S : Type} {l : Launch} {y : MethodName} {bytes : ByteArray} {maxL : Nat} {ret : Option FieldType} {k mc ms : Nat} {D : va_G} {tys : List (ClassId × FieldType)} {av : List Value} {ws : va_W} {post : S → Prop} {ra : S → Nat} {w1 : S → va_W} (hy : plainName y.cls = true) (hlen : (lg_sl av).length ≤ maxL)
    (body : ∀ p e s m below meth c ls A H, kx_In p s m av.toArray meth c y bytes maxL ret → lv_has ls maxL (lv_args 0 av) → kx_w D tys A s ws H [] →
      W p l e (kx_R k mc ms) s m av.toArray below meth c H [] 0 0 (MQ below (va_Qr post (fun u a t => a = ra u ∧ kx_B D tys A (w1 u) t) A) av.toArray s mc ms A) (F0 m 0 ls [])) : kx_Cr l y bytes maxL ret k mc ms D tys av ws post ra w1 :=
  fun sz => kx_enter (Qf := fun A => va_Qr post (fun u a t => a = ra u ∧ kx_B D tys A (w1 u) t) A) hy hlen body sz
/-- small numbers -/
theorem kx_lt {i : Int32} {n : Nat} (h : vp_in i n) : i.toNatClampNeg < n := Nat.not_le.mp fun q => h (Or.inr q)
theorem kx_c3 {i : Int32} (h : vp_in i 3) : i.toNatClampNeg = 0 ∨ i.toNatClampNeg = 1 ∨ i.toNatClampNeg = 2 := by
  have := kx_lt h
  omega
theorem kx_c4 {i : Int32} (h : vp_in i 4) : i.toNatClampNeg = 0 ∨ i.toNatClampNeg = 1 ∨ i.toNatClampNeg = 2 ∨ i.toNatClampNeg = 3 := by
  have := kx_lt h
  omega
theorem kx_i2 {x N : Int32} {n : Nat} (hN : N.toInt = n) (h0 : ¬ x < 0) (h1 : ¬ N ≤ x) : vp_in x n := by
  rw [Int32.lt_iff_toInt_lt, show (0 : Int32).toInt = 0 from rfl] at h0
  rw [Int32.le_iff_toInt_le, hN] at h1
  exact vp_in_iff.mpr ⟨by omega, by omega⟩
theorem kx_i3 {x N : Int32} {n : Nat} (hN : N.toInt = n) (h0 : 0 ≤ x) (h1 : ¬ N ≤ x) : vp_in x n := by
  rw [Int32.le_iff_toInt_le, show (0 : Int32).toInt = 0 from rfl] at h0
  rw [Int32.le_iff_toInt_le, hN] at h1
  exact vp_in_iff.mpr ⟨by omega, by omega⟩
theorem kx_ne {x k : Int32} (h : ¬ x = k) : ¬ x.toInt = k.toInt := fun e => h (Int32.toInt_inj.mp e)
theorem kx_sw2 {x : Int32} (h0 : ¬ x = 0) (h1 : ¬ x = 1) : x.toInt < 0 ∨ 1 < x.toInt := by
  have a := kx_ne h0; have b := kx_ne h1
  rw [show (0 : Int32).toInt = 0 from rfl] at a; rw [show (1 : Int32).toInt = 1 from rfl] at b
  omega
theorem kx_sw3 {x : Int32} (h0 : ¬ x = 0) (h1 : ¬ x = 1) (h2 : ¬ x = 2) : x.toInt < 0 ∨ 2 < x.toInt := by
  have a := kx_ne h0; have b := kx_ne h1; have c := kx_ne h2
  rw [show (0 : Int32).toInt = 0 from rfl] at a; rw [show (1 : Int32).toInt = 1 from rfl] at b; rw [show (2 : Int32).toInt = 2 from rfl] at c
  omega
theorem kx_sw5 {x : Int32} (h0 : ¬ x = 0) (h1 : ¬ x = 1) (h2 : ¬ x = 2) (h3 : ¬ x = 3) (h4 : ¬ x = 4) : x.toInt < 0 ∨ 4 < x.toInt := by
  have a := kx_ne h0; have b := kx_ne h1; have c := kx_ne h2; have d := kx_ne h3; have f := kx_ne h4
  rw [show (0 : Int32).toInt = 0 from rfl] at a; rw [show (1 : Int32).toInt = 1 from rfl] at b; rw [show (2 : Int32).toInt = 2 from rfl] at c; rw [show (3 : Int32).toInt = 3 from rfl] at d; rw [show (4 : Int32).toInt = 4 from rfl] at f
  omega
section KX
variable {p : Program} {l : Launch} {e : Env} {R : Room} {s : State} {m : MethodId} {args : Array Value} {below : List Frame} {meth : Method} {c : Code} {H : Heap} {locs : List Loc} {cells slots : Nat} {Q : State → Prop}
variable {cc : ByteArray} {pc nL : Nat} {ls : Array Slot} {rest : List Value} {D : va_G} {A : Nat → Prop} {a : Nat} {tys : List (ClassId × FieldType)} {ws : va_W} {own : String}
theorem kx_top {x v : Int32} (h : x = v) (k : W p l e R s m args below meth c H locs cells slots Q (F0 m pc ls (.int v :: rest))) : W p l e R s m args below meth c H locs cells slots Q (F0 m pc ls (.int x :: rest)) := by rw [h]; exact k
theorem kx_get (S : CallFix p m c cc nL s args kx_tbl own) (hw : kx_w D tys A s ws H locs) {ci k index : Nat} (F : kx_f own index ci k) (q0 : Nat) {fs : List Value} (he : ws[q0]? = some (a, .inr (ci, fs))) {v : Value} (hv : fs[k]? = some v) (hdg : decode cc pc = .ok (.getfield index, 3))
    (kk : W p l e R s m args below meth c H locs cells slots Q (F0 m (pc + 3) ls (v :: rest))) : W p l e R s m args below meth c H locs cells slots Q (F0 m pc ls (.ref a :: rest)) := by
  obtain ⟨C, T, N, hc, hk, hin, hl⟩ := F
  obtain ⟨hx, hb, -, hown, hts⟩ := S
  rcases hl with hl | ⟨host, hl⟩
  · exact va_get hx hb hts hin hown hw.1 hw.2.1 q0 he hc k hk (hts _ hl) (fun _ h => h) hv hdg kk
  · exact va_getN hx hb hts hin hown hw.1 hw.2.1 q0 he hc k hk (va_Nw.use rfl (hw.2.2.2.2.2.1 _ hl)) (fun _ h => h) hv hdg kk
theorem kx_put (S : CallFix p m c cc nL s args kx_tbl own) (hw : kx_w D tys A s ws H locs) {ci k index : Nat} {ty : FieldType} (F : kx_q own index ci k ty) (q0 : Nat) {fs : List Value} (he : ws[q0]? = some (a, .inr (ci, fs))) {v : Value} (hn : narrow ty v = v) (hfit : fits ty v = true) (hl : k < fs.length) (hdg : decode cc pc = .ok (.putfield index, 3))
    (kk : ∀ (H1 : Heap) (locs1 : List Loc), kx_w D tys A s (ws.set q0 (a, .inr (ci, fs.set k v))) H1 locs1 → W p l e R s m args below meth c H1 locs1 cells slots Q (F0 m (pc + 3) ls rest)) : W p l e R s m args below meth c H locs cells slots Q (F0 m pc ls (v :: .ref a :: rest)) := by
  obtain ⟨C, T, N, ty0, hc, hk, hin, hlk, hty, hnm, hfin, hd⟩ := F
  obtain ⟨hx, hb, -, hown, hts⟩ := S
  rcases hlk with hlk | ⟨host, hlk⟩
  · exact va_put hx hb hts hin ty0 hty hnm hown hw.1 hw.2.1 hw.2.2.1 hw.2.2.2.1 q0 he hc k hk (hts _ hlk) (fun _ h => h) hfin hd hn hfit hl hdg (fun H1 locs1 h1 h2 h3 => kk H1 locs1 ⟨hw.1, h1, h2, h3, hw.2.2.2.2⟩)
  · exact va_putN hx hb hts hin ty0 hty hnm hown hw.1 hw.2.1 hw.2.2.1 hw.2.2.2.1 q0 he hc k hk (va_Nw.use rfl (hw.2.2.2.2.2.1 _ hlk)) (fun _ h => h) hfin hd hn hfit hl hdg (fun H1 locs1 h1 h2 h3 => kk H1 locs1 ⟨hw.1, h1, h2, h3, hw.2.2.2.2⟩)
theorem kx_putF (S : CallFix p m c cc nL s args kx_tbl own) (hin2 : meth.name = "<init>") (hw : kx_w D tys A s ws H locs) {ci k index : Nat} {ty : FieldType} (F : kx_qF own index ci k ty) (q0 : Nat) {fs : List Value} (he : ws[q0]? = some (a, .inr (ci, fs))) {v : Value} (hn : narrow ty v = v) (hfit : fits ty v = true) (hl : k < fs.length) (hdg : decode cc pc = .ok (.putfield index, 3))
    (kk : ∀ (H1 : Heap) (locs1 : List Loc), kx_w D tys A s (ws.set q0 (a, .inr (ci, fs.set k v))) H1 locs1 → W p l e R s m args below meth c H1 locs1 cells slots Q (F0 m (pc + 3) ls rest)) : W p l e R s m args below meth c H locs cells slots Q (F0 m pc ls (v :: .ref a :: rest)) := by
  obtain ⟨C, T, N, ty0, hc, hk, hin, hlk, hty, hnm, hfin, hd, hde⟩ := F
  obtain ⟨hx, hb, -, hown, hts⟩ := S
  exact va_putF hx hb hts hin ty0 hty hnm hown hw.1 hw.2.1 hw.2.2.1 hw.2.2.2.1 q0 he hc k hk (hts _ hlk) (fun _ h => h) hfin hin2 hde hd hn hfit hl hdg (fun H1 locs1 h1 h2 h3 => kk H1 locs1 ⟨hw.1, h1, h2, h3, hw.2.2.2.2⟩)
theorem kx_new (S : CallFix p m c cc nL s args kx_tbl own) (hw : kx_w D tys A s ws H locs) {ci index : Nat} {fs : List Value} (F : kx_n own index ci fs) (hcells : cells + 1 ≤ R.cells) (hslots : slots + fs.length ≤ R.slots) (hdg : decode cc pc = .ok (.new index, 3))
    (kk : ∀ (q : Nat) (H1 : Heap), kx_w D tys A s (ws ++ [(q, .inr (ci, fs))]) H1 locs → W p l e R s m args below meth c H1 locs (cells + 1) (slots + fs.length) Q (F0 m (pc + 3) ls (.ref q :: rest))) : W p l e R s m args below meth c H locs cells slots Q (F0 m pc ls rest) := by
  obtain ⟨C, T, ty0, hc, hin, hty, h1, h2, h3, h4⟩ := F
  obtain ⟨hx, hb, -, hown, hts⟩ := S
  exact va_new hx hb hts hin ty0 hty hown (hts _ h1) (hts _ h2) (hts _ h3) hw.1 hw.2.1 hw.2.2.1 hw.2.2.2.1 hw.2.2.2.2.1 hc h4 hcells hslots hdg (fun q H1 g1 g2 g3 => kk q H1 ⟨hw.1, g1, g2, g3, hw.2.2.2.2⟩)
theorem kx_init (S : CallFix p m c cc nL s args kx_tbl own) {idx : Nat} (F : Cond.methodLink own idx Lib.objectInit ∈ kx_tbl ∧ Cond.instanceMethod Lib.objectInit ∈ kx_tbl ∧ Cond.code Lib.objectInit ⟨#[0xb1]⟩ 1 none ∈ kx_tbl) (hsz : ls.size = nL) (hd : decode cc pc = .ok (.invokespecial idx, 3)) (hframes : 1 ≤ R.frames) (hlocals : (rest.map fun v => v.category).sum + 12 ≤ R.locals)
    (kk : W p l e R s m args below meth c H locs cells slots Q (F0 m (pc + 3) ls rest)) : W p l e R s m args below meth c H locs cells slots Q (F0 m pc ls (.ref a :: rest)) := by
  obtain ⟨hx, hb, hml, hown, hts⟩ := S
  refine W.objInit hx hb hown (hts _ F.1) (hts _ F.2.1) (hts _ F.2.2) rfl (by rw [hml]; exact hsz) rfl hd hframes ?_ kk
  show 2 * 0 + _ + 12 ≤ _
  omega
theorem kx_iald (S : CallFix p m c cc nL s args kx_tbl own) (hw : kx_w D tys A s ws H locs) (q0 t0 : Nat) {cA : ClassId} {n : Nat} {f : Nat → Int32} (ha : ws[q0]? = some (a, .inl (cA, n, .inl f))) (ht : tys[t0]? = some (cA, .int)) {i : Int32} {j : Nat} (hj : i.toNatClampNeg = j) (hin : vp_in i n) (hdg : decode cc pc = .ok (.iaload, 1))
    (kk : W p l e R s m args below meth c H locs cells slots Q (F0 m (pc + 1) ls (.int (f j) :: rest))) : W p l e R s m args below meth c H locs cells slots Q (F0 m pc ls (.int i :: .ref a :: rest)) := by
  subst hj
  exact va_iald S.1 S.2.1 hw.1 hw.2.1 q0 t0 ha ht hin hdg kk
theorem kx_zald (S : CallFix p m c cc nL s args kx_tbl own) (hw : kx_w D tys A s ws H locs) (q0 t0 : Nat) {cA : ClassId} {n : Nat} {f : Nat → Int32} (ha : ws[q0]? = some (a, .inl (cA, n, .inl f))) (ht : tys[t0]? = some (cA, .boolean)) {i : Int32} {j : Nat} (hj : i.toNatClampNeg = j) (hin : vp_in i n) (hdg : decode cc pc = .ok (.baload, 1))
    (kk : W p l e R s m args below meth c H locs cells slots Q (F0 m (pc + 1) ls (.int (f j) :: rest))) : W p l e R s m args below meth c H locs cells slots Q (F0 m pc ls (.int i :: .ref a :: rest)) := by
  subst hj
  exact va_zald S.1 S.2.1 hw.1 hw.2.1 q0 t0 ha ht hin hdg kk
theorem kx_aald (S : CallFix p m c cc nL s args kx_tbl own) (hw : kx_w D tys A s ws H locs) (q0 t0 : Nat) {cA : ClassId} {C : String} {n : Nat} {f : Nat → Option Nat} (ha : ws[q0]? = some (a, .inl (cA, n, .inr (.inr (.inr (.inr f)))))) (ht : tys[t0]? = some (cA, .object C)) {i : Int32} {b : Nat} (hj : f i.toNatClampNeg = some b) (hin : vp_in i n) (hdg : decode cc pc = .ok (.aaload, 1))
    (kk : W p l e R s m args below meth c H locs cells slots Q (F0 m (pc + 1) ls (.ref b :: rest))) : W p l e R s m args below meth c H locs cells slots Q (F0 m pc ls (.int i :: .ref a :: rest)) := by
  refine va_aldq S.1 S.2.1 hw.1 hw.2.1 q0 t0 ha ht hin hdg ?_
  rw [hj]
  exact kk
theorem kx_iast (S : CallFix p m c cc nL s args kx_tbl own) (hw : kx_w D tys A s ws H locs) (q0 t0 : Nat) {cA : ClassId} {n : Nat} {f : Nat → Int32} (ha : ws[q0]? = some (a, .inl (cA, n, .inl f))) (ht : tys[t0]? = some (cA, .int)) {i x : Int32} {j : Nat} (hj : i.toNatClampNeg = j) (hin : vp_in i n) (hdg : decode cc pc = .ok (.iastore, 1))
    (kk : ∀ (H1 : Heap) (locs1 : List Loc), kx_w D tys A s (ws.set q0 (a, .inl (cA, n, .inl (upd f j x)))) H1 locs1 → W p l e R s m args below meth c H1 locs1 cells slots Q (F0 m (pc + 1) ls rest)) : W p l e R s m args below meth c H locs cells slots Q (F0 m pc ls (.int x :: .int i :: .ref a :: rest)) := by
  subst hj
  exact va_iast S.1 S.2.1 hw.1 hw.2.1 hw.2.2.1 hw.2.2.2.1 q0 t0 ha ht hin hdg (fun H1 locs1 h1 h2 h3 => kk H1 locs1 ⟨hw.1, h1, h2, h3, hw.2.2.2.2⟩)
theorem kx_zast (S : CallFix p m c cc nL s args kx_tbl own) (hw : kx_w D tys A s ws H locs) (q0 t0 : Nat) {cA : ClassId} {n : Nat} {f : Nat → Int32} (ha : ws[q0]? = some (a, .inl (cA, n, .inl f))) (ht : tys[t0]? = some (cA, .boolean)) {i x : Int32} {j : Nat} (hj : i.toNatClampNeg = j) (hxn : vp_nar .boolean x = x) (hin : vp_in i n) (hdg : decode cc pc = .ok (.bastore, 1))
    (kk : ∀ (H1 : Heap) (locs1 : List Loc), kx_w D tys A s (ws.set q0 (a, .inl (cA, n, .inl (upd f j x)))) H1 locs1 → W p l e R s m args below meth c H1 locs1 cells slots Q (F0 m (pc + 1) ls rest)) : W p l e R s m args below meth c H locs cells slots Q (F0 m pc ls (.int x :: .int i :: .ref a :: rest)) := by
  subst hj
  refine va_zast S.1 S.2.1 hw.1 hw.2.1 hw.2.2.1 hw.2.2.2.1 q0 t0 ha ht hin hdg (fun H1 locs1 h1 h2 h3 => ?_)
  rw [hxn] at h1 h2
  exact kk H1 locs1 ⟨hw.1, h1, h2, h3, hw.2.2.2.2⟩
theorem kx_aast (S : CallFix p m c cc nL s args kx_tbl own) (hw : kx_w D tys A s ws H locs) (q0 t0 qk ci : Nat) {cA : ClassId} {r : vw_C} {n v : Nat} {vs : List Value} {f : Nat → Option Nat} (ha : ws[q0]? = some (a, .inl (cA, n, .inr (.inr (.inr (.inr f)))))) (ht : tys[t0]? = some (cA, .object r.1)) (hv : ws[qk]? = some (v, .inr (ci, vs))) (hc : classes[ci]? = some r) {i : Int32} {j : Nat} (hj : i.toNatClampNeg = j) (hin : vp_in i n) (hdg : decode cc pc = .ok (.aastore, 1))
    (kk : ∀ (H1 : Heap) (locs1 : List Loc), kx_w D tys A s (ws.set q0 (a, .inl (cA, n, .inr (.inr (.inr (.inr (va_up f j (some v)))))))) H1 locs1 → W p l e R s m args below meth c H1 locs1 cells slots Q (F0 m (pc + 1) ls rest)) : W p l e R s m args below meth c H locs cells slots Q (F0 m pc ls (.ref v :: .int i :: .ref a :: rest)) := by
  subst hj
  exact va_astq S.1 S.2.1 hw.1 hw.2.1 hw.2.2.1 hw.2.2.2.1 q0 t0 qk ci ha ht hv hc hin hdg (fun H1 locs1 h1 h2 h3 => kk H1 locs1 ⟨hw.1, h1, h2, h3, hw.2.2.2.2⟩)
theorem kx_alen (S : CallFix p m c cc nL s args kx_tbl own) (hw : kx_w D tys A s ws H locs) (q0 t0 : Nat) {cA : ClassId} {x : vp_A} (ha : ws[q0]? = some (a, .inl (cA, x))) {ty : FieldType} (ht : tys[t0]? = some (cA, ty)) {v : Int32} (hv : Int32.ofNat x.1 = v) (hdg : decode cc pc = .ok (.arraylength, 1))
    (kk : W p l e R s m args below meth c H locs cells slots Q (F0 m (pc + 1) ls (.int v :: rest))) : W p l e R s m args below meth c H locs cells slots Q (F0 m pc ls (.ref a :: rest)) :=
  va_alen S.1 S.2.1 hw.1 hw.2.1 q0 t0 ha ht hv hdg kk
/-- the class of an array type is one -/
theorem kx_RA {cA cB : ClassId} {ty : FieldType} (h1 : va_RA s cA ty) (h2 : va_RA s cB ty) : cA = cB := by
  cases ty with
  | object C =>
    obtain ⟨_, _, _, _, _, h4⟩ := h1
    obtain ⟨_, _, _, _, _, g4⟩ := h2
    exact Option.some.inj (h4.symm.trans g4)
  | _ => exact Option.some.inj (Eq.trans (Eq.symm h1) h2)
theorem kx_newa (S : CallFix p m c cc nL s args kx_tbl own) (hw : kx_w D tys A s ws H locs) {atype : ArrayType} (harr : Cond.arrayClass (newarray.typeOf atype) ∈ kx_tbl) {ty : FieldType} (hty : newarray.typeOf atype = ty) (t0 : Nat) {cA : ClassId} (ht : tys[t0]? = some (cA, ty))
    {n : Int32} {N' : Nat} {a0 : vp_A} (ha : ∀ cA : ClassId, vp_cell cA a0 = arrV cA N' (fun _ => defaultValue ty)) (hn : ¬ n < 0) (hN : n.toNatClampNeg = N') (hbytes : N' * componentBytes ty ≤ 536870912) (hcells : cells + 1 ≤ R.cells) (hslots : slots + N' ≤ R.slots) (hdg : decode cc pc = .ok (.newarray atype, 2))
    (kk : ∀ (q : Nat) (H1 : Heap), kx_w D tys A s (ws ++ [(q, .inl (cA, a0))]) H1 locs → W p l e R s m args below meth c H1 locs (cells + 1) (slots + N') Q (F0 m (pc + 2) ls (.ref q :: rest))) : W p l e R s m args below meth c H locs cells slots Q (F0 m pc ls (.int n :: rest)) := by
  refine va_newa S.1 S.2.1 (S.2.2.2.2 _ harr) hty hw.1 hw.2.1 hw.2.2.1 hw.2.2.2.1 hw.2.2.2.2.1 ha hn hN hbytes hcells hslots hdg (fun q cB H1 g0 g1 g2 g3 => ?_)
  have e : cB = cA := kx_RA (g0.2 tys.length (cB, ty) (by rw [List.getElem?_append_right (Nat.le_refl _), Nat.sub_self]; rfl)).2 (hw.1.2 t0 _ ht).2
  subst e
  exact kk q H1 ⟨hw.1, g1, g2, g3, hw.2.2.2.2⟩
theorem kx_newq (S : CallFix p m c cc nL s args kx_tbl own) (hw : kx_w D tys A s ws H locs) {C : String} {index : Nat} (F : Cond.classLink own index C ∈ kx_tbl ∧ C = "RebornDrivers$Operation") (t0 : Nat) {cA : ClassId} (ht : tys[t0]? = some (cA, .object C))
    {n : Int32} {N' : Nat} (hn : ¬ n < 0) (hN : n.toNatClampNeg = N') (hbytes : N' * 4 ≤ 536870912) (hcells : cells + 1 ≤ R.cells) (hslots : slots + N' ≤ R.slots) (hdg : decode cc pc = .ok (.anewarray index, 3))
    (kk : ∀ (q : Nat) (H1 : Heap), kx_w D tys A s (ws ++ [(q, .inl (cA, N', .inr (.inr (.inr (.inr (fun _ => none))))))]) H1 locs → W p l e R s m args below meth c H1 locs (cells + 1) (slots + N') Q (F0 m (pc + 3) ls (.ref q :: rest))) : W p l e R s m args below meth c H locs cells slots Q (F0 m pc ls (.int n :: rest)) := by
  refine va_newq S.1 S.2.1 S.2.2.2.1 (S.2.2.2.2 _ F.1) (F.2 ▸ hw.2.2.2.2.2.2) hw.1 hw.2.1 hw.2.2.1 hw.2.2.2.1 hw.2.2.2.2.1 hn hN hbytes hcells hslots hdg (fun q cB H1 g0 g1 g2 g3 => ?_)
  have e : cB = cA := kx_RA (g0.2 tys.length (cB, .object C) (by rw [List.getElem?_append_right (Nat.le_refl _), Nat.sub_self]; rfl)).2 (hw.1.2 t0 _ ht).2
  subst e
  exact kk q H1 ⟨hw.1, g1, g2, g3, hw.2.2.2.2⟩
theorem kx_max (S : CallFix p m c cc nL s args kx_tbl own) {index : Nat} (F : Cond.methodLink own index Lib.Math.max.name ∈ kx_tbl ∧ Cond.static Lib.Math.max.name ∈ kx_tbl ∧ Cond.initialized "java/lang/Math" ∈ kx_tbl ∧ Cond.code Lib.Math.max.name Lib.Math.max.code 2 (some .int) ∈ kx_tbl) (hsz : ls.size = nL)
    (hframes : 1 ≤ R.frames) (hlocals : (rest.map fun v => v.category).sum + 13 ≤ R.locals) (hc : cells ≤ R.cells) (hs : slots ≤ R.slots) {x y : Int32} (hdg : decode cc pc = .ok (.invokestatic index, 3))
    (kk : W p l e R s m args below meth c H locs cells slots Q (F0 m (pc + 3) ls (.int (if x < y then y else x) :: rest))) : W p l e R s m args below meth c H locs cells slots Q (F0 m pc ls (.int y :: .int x :: rest)) := by
  obtain ⟨hx, hb, hml, hown, hts⟩ := S
  exact va_mmax hx hb (hml.trans hsz.symm) hown (hts _ F.1) (hts _ F.2.1) (hts _ F.2.2.1) (hts _ F.2.2.2) hframes hlocals hc hs hdg kk
/-- ends -/
theorem kx_ret_i {S : Type} {post : Int32 → S → Prop} {w1 : S → va_W} {y : MethodName} {ret : Option FieldType} (I : kx_In p s m args meth c y cc nL ret) (hret : ret = some .int) (hw : kx_w D tys A s ws H locs) {v : Int32} (u : S) (hp : post v u) (is : List Nat) (hn : va_nd is = true) (hs : is.map (fun i => ws[i]?) = (w1 u).map some) (hdg : decode cc pc = .ok (.ireturn, 1)) :
    W p l e R s m args below meth c H locs cells slots (MQ below (va_Qi post (fun u t => kx_B D tys A (w1 u) t) A) args s cells slots A) (F0 m pc ls [.int v]) := by
  have h9 := hw.sub is hn hs
  exact W.iret I.1.1 I.1.2.1 (I.2.1.trans hret) (fun t ht hW => ⟨⟨v, u, rfl, hp, by rw [ht]; exact h9.2.1, va_K.moved hW.alike h9.1, h9.2.2.1⟩, hw.2.2.2.1.F ht⟩) hw.2.2.2.1.2.2 hdg I.2.2.1
def kx_b (v : Int32) : Prop := v = 0 ∨ v = 1
theorem kx_b.nar {v : Int32} (h : kx_b v) : narrow .boolean (.int v) = .int v := by
  rcases h with rfl | rfl <;> rfl
theorem kx_b.vnar {v : Int32} (h : kx_b v) : vp_nar .boolean v = v := by
  rcases h with rfl | rfl <;> rfl
theorem kx_b.fit {v : Int32} (h : kx_b v) : fits .boolean (.int v) = true := by
  rcases h with rfl | rfl <;> rfl
theorem kx_ret_z {S : Type} {post : Int32 → S → Prop} {w1 : S → va_W} {y : MethodName} {ret : Option FieldType} (I : kx_In p s m args meth c y cc nL ret) (hret : ret = some .boolean) (hw : kx_w D tys A s ws H locs) {v : Int32} (hv : kx_b v) (u : S) (hp : post v u) (is : List Nat) (hn : va_nd is = true) (hs : is.map (fun i => ws[i]?) = (w1 u).map some) (hdg : decode cc pc = .ok (.ireturn, 1)) :
    W p l e R s m args below meth c H locs cells slots (MQ below (va_Qi post (fun u t => kx_B D tys A (w1 u) t) A) args s cells slots A) (F0 m pc ls [.int v]) := by
  have h9 := hw.sub is hn hs
  exact W.zret I.1.1 I.1.2.1 (I.2.1.trans hret) hv.nar (fun t ht hW => ⟨⟨v, u, rfl, hp, by rw [ht]; exact h9.2.1, va_K.moved hW.alike h9.1, h9.2.2.1⟩, hw.2.2.2.1.F ht⟩) hw.2.2.2.1.2.2 hdg I.2.2.1
theorem kx_ret_v {S : Type} {post : S → Prop} {w1 : S → va_W} {y : MethodName} {ret : Option FieldType} (I : kx_In p s m args meth c y cc nL ret) (hret : ret = none) (hw : kx_w D tys A s ws H locs) (u : S) (hp : post u) (is : List Nat) (hn : va_nd is = true) (hs : is.map (fun i => ws[i]?) = (w1 u).map some) (hdg : decode cc pc = .ok (.return_, 1)) :
    W p l e R s m args below meth c H locs cells slots (MQ below (va_Qv post (fun u t => kx_B D tys A (w1 u) t) A) args s cells slots A) (F0 m pc ls []) := by
  have h9 := hw.sub is hn hs
  exact W.vret I.1.1 I.1.2.1 (I.2.1.trans hret) (fun t ht hW => ⟨⟨u, rfl, hp, by rw [ht]; exact h9.2.1, va_K.moved hW.alike h9.1, h9.2.2.1⟩, hw.2.2.2.1.F ht⟩) hw.2.2.2.1.2.2 hdg I.2.2.1
theorem kx_ret_r {S : Type} {post : S → Prop} {ra : S → Nat} {w1 : S → va_W} {y : MethodName} {ret : Option FieldType} {C : String} (I : kx_In p s m args meth c y cc nL ret) (hret : ret = some (.object C)) (hw : kx_w D tys A s ws H locs) {b : Nat} (u : S) (hb : b = ra u) (hp : post u) (is : List Nat) (hn : va_nd is = true) (hs : is.map (fun i => ws[i]?) = (w1 u).map some) (hdg : decode cc pc = .ok (.areturn, 1)) :
    W p l e R s m args below meth c H locs cells slots (MQ below (va_Qr post (fun u a t => a = ra u ∧ kx_B D tys A (w1 u) t) A) args s cells slots A) (F0 m pc ls [.ref b]) := by
  have h9 := hw.sub is hn hs
  exact W.aret I.1.1 I.1.2.1 (I.2.1.trans hret) (Or.inl ⟨_, rfl⟩) (Or.inr ⟨_, rfl⟩) (fun t ht hW => ⟨⟨u, b, rfl, hp, hb, by rw [ht]; exact h9.2.1, va_K.moved hW.alike h9.1, h9.2.2.1⟩, hw.2.2.2.1.F ht⟩) hw.2.2.2.1.2.2 hdg I.2.2.1
/-- calls -/
theorem kx_blind {av : List Value} {wc : va_W} {sz : Nat} : FrameBlind (kx_Pre D tys av wc sz) := fun a U g mk q => by
  obtain ⟨q0, q1, qP, qK, qD, qN⟩ := q
  exact ⟨q0, q1, qP, va_K.moved (u := U) (U := U.calling g mk a) (Vm.Alike.refl U.vm) qK, qD, kx_N.same (u := U) rfl qN⟩
theorem kx_pre {av : List Value} {wc : va_W} (hw : kx_w D tys A s ws H locs) (isC : List Nat) (h0 : va_nd isC = true) (h1 : isC.map (fun i => ws[i]?) = wc.map some) (U : State) (hU : U.heap = H) (hW : s.WarmedH U.vm) : kx_Pre D tys av wc H.size av.toArray U := by
  have h9 := hw.sub isC h0 h1
  exact ⟨rfl, by rw [hU], by rw [hU]; exact h9.2.1, va_K.moved hW.alike h9.1, h9.2.2.1.weaken (fun _ _ _ _ => trivial), hw.2.2.2.2.2.warm hW⟩
theorem kx_runV {y : MethodName} {bytes : ByteArray} {maxL n index k mc ms : Nat} {ret : Option FieldType} {Qc : Array Value → State → Outcome → State → Prop} {free : Addr → Prop} {C : String} {T : u_T} {N ci b : Nat} {As st : List Value} {wc : va_W} {fs : List Value} (S : CallFix p m c cc nL s args kx_tbl own) (hw : kx_w D tys A s ws H locs) (F : kx_m own index y bytes maxL ret n ∧ Cond.instanceMethod y ∈ kx_tbl ∧ Cond.selects C y y ∈ kx_tbl) (hc : classes[ci]? = some (C, T, N)) (q0 : Nat) (he : ws[q0]? = some (b, .inr (ci, fs))) (isC : List Nat) (h0 : va_nd isC = true) (h1 : isC.map (fun i => ws[i]?) = wc.map some)
    (hM : Met l y (Cond.code y bytes maxL ret :: kx_tbl) (kx_R k mc ms) (kx_Pre D tys (.ref b :: As) wc H.size) Qc mc ms free) (hn : As.length = n) (hsize : ls.size = nL) (hst : st = As.reverse ++ .ref b :: rest) (hsum : (rest.map fun v => v.category).sum ≤ 8) (hdg : decode cc pc = .ok (.invokevirtual index, 3)) (hR : k + 1 ≤ R.frames ∧ 8 + (maxL + 11) + 24 * k ≤ R.locals) (hf : cells + mc ≤ R.cells ∧ slots + ms ≤ R.slots) :
    va_Run p l e R s m args below meth c H locs cells slots mc ms (F0 m pc ls st) rest (Qc (Value.ref b :: As).toArray) free := by
  obtain ⟨⟨f1, f2, f3, f4⟩, f5, f6⟩ := F
  have hts := S.2.2.2.2
  have hpre : PreV s H C b (kx_Pre D tys (.ref b :: As) wc H.size) As := ⟨kx_blind, va_recv hw.1 hw.2.1 hc he, fun U hU hW => kx_pre hw isC h0 h1 U hU hW⟩
  rcases f4 with f4 | ⟨host, f4⟩
  · exact va_runV S hM ⟨callB_of n hts (kx_good f1) rfl rfl rfl (hts _ f2) (hts _ f4) f3 hR, hts _ f5, hts _ f6⟩ hpre rfl hn hsize hst (lv_room hsum) hdg hf
  · exact va_runVN S hM ⟨va_cnB n hts (kx_good f1) rfl rfl rfl (hw.2.2.2.2.2.1 _ f4) (hts _ f2) f3 hR, hts _ f5, hts _ f6⟩ hpre rfl hn hsize hst (lv_room hsum) hdg hf
theorem kx_runS {y : MethodName} {bytes : ByteArray} {maxL n index k mc ms : Nat} {ret : Option FieldType} {Qc : Array Value → State → Outcome → State → Prop} {free : Addr → Prop} {As st : List Value} {wc : va_W} (S : CallFix p m c cc nL s args kx_tbl own) (hw : kx_w D tys A s ws H locs) (F : kx_m own index y bytes maxL ret n ∧ Cond.static y ∈ kx_tbl) (isC : List Nat) (h0 : va_nd isC = true) (h1 : isC.map (fun i => ws[i]?) = wc.map some)
    (hM : Met l y (Cond.code y bytes maxL ret :: kx_tbl) (kx_R k mc ms) (kx_Pre D tys As wc H.size) Qc mc ms free) (hn : As.length = n) (hsize : ls.size = nL) (hst : st = As.reverse ++ rest) (hsum : (rest.map fun v => v.category).sum ≤ 8) (hdg : decode cc pc = .ok (.invokestatic index, 3)) (hR : k + 1 ≤ R.frames ∧ 8 + (maxL + 11) + 24 * k ≤ R.locals) (hf : cells + mc ≤ R.cells ∧ slots + ms ≤ R.slots) :
    va_Run p l e R s m args below meth c H locs cells slots mc ms (F0 m pc ls st) rest (Qc As.toArray) free := by
  obtain ⟨⟨f1, f2, f3, f4⟩, f5⟩ := F
  have hts := S.2.2.2.2
  have hpre : PreS s H (kx_Pre D tys As wc H.size) As := ⟨kx_blind, fun U hU hW => kx_pre hw isC h0 h1 U hU hW⟩
  rcases f4 with f4 | ⟨host, f4⟩
  · exact va_runS S hM ⟨callB_of n hts (kx_good f1) rfl rfl rfl (hts _ f2) (hts _ f4) f3 hR, hts _ f5⟩ hpre rfl hn hsize hst (lv_room hsum) hdg hf
  · exact va_runSN S hM ⟨va_cnB n hts (kx_good f1) rfl rfl rfl (hw.2.2.2.2.2.1 _ f4) (hts _ f2) f3 hR, hts _ f5, trivial⟩ hpre rfl hn hsize hst (lv_room hsum) hdg hf
theorem kx_runI {y : MethodName} {bytes : ByteArray} {maxL n index k mc ms : Nat} {Qc : Array Value → State → Outcome → State → Prop} {free : Addr → Prop} {b : Nat} {As st : List Value} {wc : va_W} (S : CallFix p m c cc nL s args kx_tbl own) (hw : kx_w D tys A s ws H locs) (F : kx_m own index y bytes maxL none n ∧ y.name = "<init>" ∧ Cond.instanceMethod y ∈ kx_tbl) (isC : List Nat) (h0 : va_nd isC = true) (h1 : isC.map (fun i => ws[i]?) = wc.map some)
    (hM : Met l y (Cond.code y bytes maxL none :: kx_tbl) (kx_R k mc ms) (kx_Pre D tys (.ref b :: As) wc H.size) Qc mc ms free) (hn : As.length = n) (hsize : ls.size = nL) (hst : st = As.reverse ++ .ref b :: rest) (hsum : (rest.map fun v => v.category).sum ≤ 8) (hdg : decode cc pc = .ok (.invokespecial index, 3)) (hR : k + 1 ≤ R.frames ∧ 8 + (maxL + 11) + 24 * k ≤ R.locals) (hf : cells + mc ≤ R.cells ∧ slots + ms ≤ R.slots) :
    va_Run p l e R s m args below meth c H locs cells slots mc ms (F0 m pc ls st) rest (Qc (Value.ref b :: As).toArray) free := by
  obtain ⟨⟨f1, f2, f3, f4⟩, f5, f6⟩ := F
  have hts := S.2.2.2.2
  have hpre : PreS s H (kx_Pre D tys (.ref b :: As) wc H.size) (.ref b :: As) := ⟨kx_blind, fun U hU hW => kx_pre hw isC h0 h1 U hU hW⟩
  rcases f4 with f4 | ⟨host, f4⟩
  · exact va_runI S hM ⟨callB_of n hts (kx_good f1) rfl rfl rfl (hts _ f2) (hts _ f4) f3 hR, f5, hts _ f6⟩ hpre rfl hn hsize hst (lv_room hsum) hdg hf
  · exact va_runIN S hM ⟨va_cnB n hts (kx_good f1) rfl rfl rfl (hw.2.2.2.2.2.1 _ f4) (hts _ f2) f3 hR, f5, hts _ f6⟩ hpre rfl hn hsize hst (lv_room hsum) hdg hf
theorem kx_call_i {S0 : Type} {post : Int32 → S0 → Prop} {w1 : S0 → va_W} {mc ms : Nat} {st : List Value} {wc wr : va_W} {aa : Array Value} (hw : kx_w D tys A s ws H locs) (isC isR : List Nat) (h1 : isC.map (fun i => ws[i]?) = wc.map some) (h2 : isR.map (fun i => ws[i]?) = wr.map some) (hn : va_nd isR = true) (hdis : ∀ i ∈ isR, i ∉ isC)
    (run : va_Run p l e R s m args below meth c H locs cells slots mc ms (F0 m pc ls st) rest (va_Qi post (fun u t => kx_B D tys (va_A wc H.size) (w1 u) t) (va_A wc H.size) aa) (va_A wc H.size))
    (kk : ∀ (r : Int32) (u : S0) (H1 : Heap) (locs1 : List Loc), post r u → kx_w D tys A s (wr ++ w1 u) H1 locs1 → W p l e R s m args below meth c H1 locs1 (cells + mc) (slots + ms) Q (F0 m (pc + 3) ls (.int r :: rest))) : W p l e R s m args below meth c H locs cells slots Q (F0 m pc ls st) := by
  have hFc := va_free (wc := wc) hw.2.2.1 hw.2.2.2.1 hw.2.2.2.2.1 isC h1
  refine va_calli run hw.2.2.2.1 (fun q _ h => hFc q h) hFc (fun r u t H1 locs1 ht hvm hp hB hz hk hS => ?_)
  obtain ⟨hP1, hK1, hD1⟩ := hB
  rw [ht] at hP1
  obtain ⟨hP, hD⟩ := va_join hw.2.1 hw.2.2.1 isC isR h1 h2 hn hdis hk hFc hP1 hD1
  exact kk r u H1 locs1 hp ⟨hw.1, hP, hD, hS, hw.2.2.2.2⟩
theorem kx_call_v {S0 : Type} {post : S0 → Prop} {w1 : S0 → va_W} {mc ms : Nat} {st : List Value} {wc wr : va_W} {aa : Array Value} (hw : kx_w D tys A s ws H locs) (isC isR : List Nat) (h1 : isC.map (fun i => ws[i]?) = wc.map some) (h2 : isR.map (fun i => ws[i]?) = wr.map some) (hn : va_nd isR = true) (hdis : ∀ i ∈ isR, i ∉ isC)
    (run : va_Run p l e R s m args below meth c H locs cells slots mc ms (F0 m pc ls st) rest (va_Qv post (fun u t => kx_B D tys (va_A wc H.size) (w1 u) t) (va_A wc H.size) aa) (va_A wc H.size))
    (kk : ∀ (u : S0) (H1 : Heap) (locs1 : List Loc), post u → kx_w D tys A s (wr ++ w1 u) H1 locs1 → W p l e R s m args below meth c H1 locs1 (cells + mc) (slots + ms) Q (F0 m (pc + 3) ls rest)) : W p l e R s m args below meth c H locs cells slots Q (F0 m pc ls st) := by
  have hFc := va_free (wc := wc) hw.2.2.1 hw.2.2.2.1 hw.2.2.2.2.1 isC h1
  refine va_callv run hw.2.2.2.1 (fun q _ h => hFc q h) hFc (fun u t H1 locs1 ht hvm hp hB hz hk hS => ?_)
  obtain ⟨hP1, hK1, hD1⟩ := hB
  rw [ht] at hP1
  obtain ⟨hP, hD⟩ := va_join hw.2.1 hw.2.2.1 isC isR h1 h2 hn hdis hk hFc hP1 hD1
  exact kk u H1 locs1 hp ⟨hw.1, hP, hD, hS, hw.2.2.2.2⟩
theorem kx_call_r {S0 : Type} {post : S0 → Prop} {ra : S0 → Nat} {w1 : S0 → va_W} {mc ms : Nat} {st : List Value} {wc wr : va_W} {aa : Array Value} (hw : kx_w D tys A s ws H locs) (isC isR : List Nat) (h1 : isC.map (fun i => ws[i]?) = wc.map some) (h2 : isR.map (fun i => ws[i]?) = wr.map some) (hn : va_nd isR = true) (hdis : ∀ i ∈ isR, i ∉ isC)
    (run : va_Run p l e R s m args below meth c H locs cells slots mc ms (F0 m pc ls st) rest (va_Qr post (fun u a t => a = ra u ∧ kx_B D tys (va_A wc H.size) (w1 u) t) (va_A wc H.size) aa) (va_A wc H.size))
    (kk : ∀ (u : S0) (H1 : Heap) (locs1 : List Loc), post u → kx_w D tys A s (wr ++ w1 u) H1 locs1 → W p l e R s m args below meth c H1 locs1 (cells + mc) (slots + ms) Q (F0 m (pc + 3) ls (.ref (ra u) :: rest))) : W p l e R s m args below meth c H locs cells slots Q (F0 m pc ls st) := by
  have hFc := va_free (wc := wc) hw.2.2.1 hw.2.2.2.1 hw.2.2.2.2.1 isC h1
  refine va_callr run hw.2.2.2.1 (fun q _ h => hFc q h) hFc (fun u b t H1 locs1 ht hvm hp hB hz hk hS => ?_)
  obtain ⟨hb, hP1, hK1, hD1⟩ := hB
  subst hb
  rw [ht] at hP1
  obtain ⟨hP, hD⟩ := va_join hw.2.1 hw.2.2.1 isC isR h1 h2 hn hdis hk hFc hP1 hD1
  exact kk u H1 locs1 hp ⟨hw.1, hP, hD, hS, hw.2.2.2.2⟩
end KX
abbrev kt_Op : Type := Int32 × Int32 × Int32 × Int32 × Int32 × Int32
abbrev kt_Ln : Type := (Nat → Int32) × Int32
abbrev kt_Dr : Type := Int32 × Int32 × Int32 × Int32 × Int32 × Int32
abbrev kt_Rq : Type := Int32 × Int32 × Int32 × Int32 × Int32 × Int32 × Int32
abbrev kt_Ca : Type := (Nat → Int32) × (Nat → Int32) × (Nat → Int32) × (Nat → Int32)
abbrev kt_M : Type := Int32 × Int32 × Int32 × Int32
abbrev kx_T (cI cZ cO : ClassId) : List (ClassId × FieldType) := [(cI, .int), (cZ, .boolean), (cO, .object "RebornDrivers$Operation")]
def kx_opsf (ad : Nat → Nat) : Nat → Option Nat := va_up (va_up (va_up (va_up (fun _ => none) 0 (some (ad 2))) 1 (some (ad 3))) 2 (some (ad 4))) 3 (some (ad 5))
