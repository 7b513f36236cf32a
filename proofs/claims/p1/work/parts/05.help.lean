def fl (N : Nat) (g : Nat → Value) : List Value := (List.range N).map g
theorem fl_get {N k : Nat} {g : Nat → Value} {v : Value} (hk : k < N) (h : g k = v) : (fl N g)[k]? = some v := by
  simp [fl, hk, h]
theorem fl_set {N k : Nat} (g : Nat → Value) (v : Value) : (fl N g).set k v = fl N (va_up g k v) := by
  apply List.ext_getElem?
  intro i
  by_cases hi : i < N
  · by_cases hk : k = i
    · subst hk
      simp [fl, hi, va_up]
    · simp [fl, hi, va_up, List.getElem?_set, hk, Ne.symm hk]
  · simp [fl, hi, List.getElem?_set]
theorem fl_len (N : Nat) (g : Nat → Value) : (fl N g).length = N := by simp [fl]
theorem fl_V {N k : Nat} {g : Nat → Value} (hk : k < N) : vp_V (fl N g) k = g k := by simp [vp_V, fl, hk]
def rm (d mc ms : Nat) : Room := { frames := 10 * d, cells := mc, slots := ms, locals := 200 * d }
def TT (Y : Nat → ClassId) : List (ClassId × FieldType) := [(Y 0, .int), (Y 1, .long), (Y 2, .boolean), (Y 3, .byte), (Y 4, .short)]
def KD (U : State) : Prop := va_Nw (.declares (Bundle.initS "java/lang/RuntimeException")) U ∧ va_Nw (.declares (Bundle.initS "java/lang/Exception")) U ∧ va_Nw (.declares (Bundle.initS Bundle.tN)) U
theorem KD.warm {s U : State} (hW : s.WarmedH U.vm) (h : KD s) : KD U := ⟨va_Nw.warmD hW h.1, va_Nw.warmD hW h.2.1, va_Nw.warmD hW h.2.2⟩
theorem KD.call {U : State} {g : JFrame} {mk : MethodId} {a : Array Value} (h : KD U) : KD (U.calling g mk a) := ⟨va_Nw.same (u := U) rfl rfl h.1, va_Nw.same (u := U) rfl rfl h.2.1, va_Nw.same (u := U) rfl rfl h.2.2⟩
def KV (D : va_G) (Y : Nat → ClassId) (U : State) : Prop :=
  va_K D vwCl (TT Y) U ∧ (∃ a, vk_R RX9 287 "there is none of that number" a U) ∧ (∃ a, vk_R RX9 294 "a number that has no meaning here" a U) ∧ va_Nw (.methodLinkNest RX9 22 yX3_init RX9) U ∧ va_AO RX5 U ∧ va_Nw (.castable nse nse) U ∧ va_Nw (.castable iae iae) U ∧ va_Nc iae nse U ∧ KD U
theorem KV.warm {D : va_G} {Y : Nat → ClassId} {s U : State} (hW : s.WarmedH U.vm) (h : KV D Y s) : KV D Y U := by
  obtain ⟨h1, ⟨a, h2⟩, ⟨b, h3⟩, h4, h5, h6, h7, h8, h9⟩ := h
  exact ⟨va_K.moved hW.alike h1, ⟨a, vk_R.warm hW h2⟩, ⟨b, vk_R.warm hW h3⟩, va_Nw.warmM hW h4, va_AO.moved hW.alike h5, va_Nw.warmC hW h6, va_Nw.warmC hW h7, va_Nc.moved hW.alike h8, h9.warm hW⟩
theorem KV.call {D : va_G} {Y : Nat → ClassId} {U : State} {g : JFrame} {mk : MethodId} {a : Array Value} (h : KV D Y U) : KV D Y (U.calling g mk a) := by
  obtain ⟨h1, ⟨a, h2⟩, ⟨b, h3⟩, h4, h5, h6, h7, h8, h9⟩ := h
  exact ⟨va_K.moved (u := U) (Vm.Alike.refl U.vm) h1, ⟨a, vk_R.same (u := U) rfl h2⟩, ⟨b, vk_R.same (u := U) rfl h3⟩, va_Nw.same (u := U) rfl rfl h4, va_AO.moved (u := U) (Vm.Alike.refl U.vm) h5, va_Nw.same (u := U) rfl rfl h6, va_Nw.same (u := U) rfl rfl h7, va_Nc.moved (u := U) (Vm.Alike.refl U.vm) h8, h9.call⟩
def ZZ (A : Nat → Prop) (U : State) (H : Heap) : Prop := vx_Zq Bundle.tN "UNASSIGNED_STACK" Bundle.steD A U H ∧ vx_Zq Bundle.tN "SUPPRESSED_SENTINEL" Bundle.listD A U H
theorem ZZ.moved {A : Nat → Prop} {u U : State} {H : Heap} (hvm : u.vm.Alike U.vm) (h : ZZ A u H) : ZZ A U H := ⟨h.1.moved hvm, h.2.moved hvm⟩
theorem ZZ.kept {A : Nat → Prop} {U : State} {H H1 : Heap} (h : ZZ A U H) (hq : ∀ a : Nat, a < H.size → ¬ A a → H1[a]? = H[a]?) : ZZ A U H1 := ⟨h.1.kept hq, h.2.kept hq⟩
theorem ZZ.narrow {A B : Nat → Prop} {U : State} {H : Heap} (h : ZZ A U H) (hAB : ∀ q, B q → A q) : ZZ B U H := ⟨h.1.narrow hAB, h.2.narrow hAB⟩
def pre (D : va_G) (Y : Nat → ClassId) (Wd : va_W) (sz : Nat) (U : State) : Prop := U.heap.size = sz ∧ KV D Y U ∧ va_P D vwCl Wd U.heap ∧ va_D (fun _ => True) Wd ∧ ZZ (va_A Wd sz) U U.heap
theorem pre_blind {D : va_G} {Y : Nat → ClassId} {Wd : va_W} {sz : Nat} {av : List Value} : FrameBlind (va_Pc av (pre D Y Wd sz)) := by
  intro a U g mk q
  obtain ⟨q0, q1, q2, q3, q4, q5⟩ := q
  exact ⟨q0, q1, q2.call, q3, q4, ZZ.moved (u := U) (U := U.calling g mk a) (H := U.heap) (Vm.Alike.refl U.vm) q5⟩
theorem pre_of {D : va_G} {Y : Nat → ClassId} {A : Nat → Prop} {ws Wc : va_W} {s : State} {H : Heap} {locs : List Loc} (hK : KV D Y s) (hZ : ZZ A s s.heap) (hP : va_P D vwCl ws H) (hD : va_D A ws) (hS : va_S A s.heap H locs) (hA : ∀ q, s.heap.size ≤ q → A q) (isC : List Nat) (hC : isC.map (fun i => ws[i]?) = Wc.map some) (hn : va_nd isC = true) :
    ∀ U : State, U.heap = H → s.WarmedH U.vm → pre D Y Wc H.size U := by
  intro U hU hW
  subst hU
  have hPc : va_P D vwCl Wc U.heap := hP.sub isC (by
    have h := congrArg (fun l => List.filterMap id l) hC
    simpa [List.filterMap_map, Function.comp_def] using h)
  exact ⟨rfl, hK.warm hW, hPc, (hD.sub isC hn hC).weaken (fun _ _ _ _ => trivial), ((hZ.kept hS.2.1).narrow (va_free hD hS hA isC hC)).moved hW.alike⟩
theorem WS_all : ∀ w ∈ WS, (w.onTables && w.keeps) = true ∨ ∃ ty, w = .arrayClass ty := fun w h => good_of_word (WS_good w h)
theorem gAll {a b : Cond} (hb : b ∈ WS) : GoodIn (a :: WS) (b :: WS) := fun w h => (List.mem_cons.mp h).elim (fun e => e ▸ ⟨List.mem_cons_of_mem _ hb, WS_all b hb⟩) (fun h => ⟨List.mem_cons_of_mem _ h, WS_all w h⟩)
theorem gIn {b : Cond} (hb : b ∈ WS) : GoodIn WS (b :: WS) := fun w h => (List.mem_cons.mp h).elim (fun e => e ▸ ⟨hb, WS_all b hb⟩) (fun h => ⟨h, WS_all w h⟩)
def bp (D : va_G) (A : Nat → Prop) {S : Type} (W1 : S → va_W) : S → State → Prop := fun u t => va_P D vwCl (W1 u) t.heap ∧ va_D A (W1 u)
abbrev QT : Type := (Nat → Prop) → Array Value → State → Outcome → State → Prop
def qI (D : va_G) {S : Type} (post : Int32 → S → Prop) (W1 : S → va_W) : QT := fun A => va_Qi post (bp D A W1) A
def qL (D : va_G) {S : Type} (post : Int64 → S → Prop) (W1 : S → va_W) : QT := fun A => va_Ql post (bp D A W1) A
def qV (D : va_G) {S : Type} (post : S → Prop) (W1 : S → va_W) : QT := fun A => va_Qv post (bp D A W1) A
abbrev XT : Type := (Nat → Prop) → String → State → State → Prop
def qX (px : String → Prop) : XT := fun A => vx_X (fun _ : Unit => True) (fun E _ _ => px E) A
def cM (l : Launch) (D : va_G) (Y : Nat → ClassId) (y : MethodName) (cc : ByteArray) (mL : Nat) (rt : Option FieldType) (d mc ms : Nat) (av : List Value) (Wd : va_W) (Qc : QT) : Prop :=
  ∀ sz : Nat, Met l y (Cond.code y cc mL rt :: WS) (rm d mc ms) (va_Pc av (pre D Y Wd sz)) (Qc (va_A Wd sz)) mc ms (va_A Wd sz)
def xM (l : Launch) (D : va_G) (Y : Nat → ClassId) (y : MethodName) (cc : ByteArray) (mL : Nat) (rt : Option FieldType) (d mc ms : Nat) (av : List Value) (Wd : va_W) (Qc : QT) (px : String → Prop) : Prop :=
  ∀ sz : Nat, vx_Met l y (Cond.code y cc mL rt :: WS) (rm d mc ms) (va_Pc av (pre D Y Wd sz)) (Qc (va_A Wd sz)) (qX px (va_A Wd sz)) mc ms (va_A Wd sz)
/-- a wrapper with an exception table, that returns -/
def hM (l : Launch) (D : va_G) (Y : Nat → ClassId) (y : MethodName) (cc : ByteArray) (mL : Nat) (rt : Option FieldType) (hh : List (Nat × Nat × Nat × Nat)) (d mc ms : Nat) (av : List Value) (Wd : va_W) (Qc : QT) : Prop :=
  ∀ sz : Nat, Met l y (Cond.codeWith y cc mL rt hh :: WS) (rm d mc ms) (va_Pc av (pre D Y Wd sz)) (Qc (va_A Wd sz)) mc ms (va_A Wd sz)
theorem cM.mk {l : Launch} {D : va_G} {Y : Nat → ClassId} {y : MethodName} {cc : ByteArray} {mL : Nat} {rt : Option FieldType} {d mc ms : Nat} {av : List Value} {Wd : va_W} {Qc : QT} (own : String) (hw : y.cls = own) (hy : plainName y.cls = true) (hn : (lg_sl av).length ≤ mL)
    (body : ∀ (p : Program) (e : Env) (s : State) (m : MethodId) (below : List Frame) (meth : Method) (c : Code) (A : Nat → Prop), CallFix p m c cc mL s av.toArray WS own → meth.sig.returnType = rt → meth.locks = false → meth.name = y.name → KV D Y s → ZZ A s s.heap → va_P D vwCl Wd s.heap → va_D A Wd → (∀ q, s.heap.size ≤ q → A q) → va_S A s.heap s.heap [] → ∀ ls : Array Slot, lv_has ls mL (lv_args 0 av) →
      W p l e (rm d mc ms) s m av.toArray below meth c s.heap [] 0 0 (MQ below (Qc A) av.toArray s mc ms A) (F0 m 0 ls [])) : cM l D Y y cc mL rt d mc ms av Wd Qc := by
  intro sz
  refine Met.ofW (cc := cc) (maxL := mL) (ret := rt) hy rfl ?_
  intro p e s m args below meth c s₁ B hml hv
  obtain ⟨rfl, hsz, hK, hP, hD0, hZ⟩ := hv
  have hts := atoms_spec (ws := Cond.code y cc mL rt :: WS) B.pre
  subst hsz
  have hl := lv_entry av (n := mL) hn
  rw [lg_entry_eq]
  exact body p e s m below meth c (va_A Wd s.heap.size) ⟨B.exec, B.bytes, hml, by rw [← hw]; exact findClass_of_methodNamed B.named, fun w h => hts w (List.mem_cons_of_mem _ h)⟩ B.returns B.notSynchronized (name_of_methodNamed B.named B.method).1 hK hZ hP hD0.self (fun q h => Or.inr h) va_S.rf _ hl
theorem xM.mk {l : Launch} {D : va_G} {Y : Nat → ClassId} {y : MethodName} {cc : ByteArray} {mL : Nat} {rt : Option FieldType} {d mc ms : Nat} {av : List Value} {Wd : va_W} {Qc : QT} {px : String → Prop} (own : String) (hw : y.cls = own) (hy : plainName y.cls = true) (hn : (lg_sl av).length ≤ mL)
    (body : ∀ (p : Program) (e : Env) (s : State) (m : MethodId) (below : List Frame) (meth : Method) (c : Code) (A : Nat → Prop), CallFix p m c cc mL s av.toArray WS own → meth.sig.returnType = rt → meth.locks = false → (∀ x ∈ c.exceptionTable.toList, False) → KV D Y s → ZZ A s s.heap → va_P D vwCl Wd s.heap → va_D A Wd → (∀ q, s.heap.size ≤ q → A q) → va_S A s.heap s.heap [] → ∀ ls : Array Slot, lv_has ls mL (lv_args 0 av) →
      W p l e (rm d mc ms) s m av.toArray below meth c s.heap [] 0 0 (vx_MQ below (Qc A) (qX px A) av.toArray s mc ms A) (F0 m 0 ls [])) : xM l D Y y cc mL rt d mc ms av Wd Qc px := by
  intro sz
  refine vx_ofW (cc := cc) (maxL := mL) (ret := rt) hy rfl ?_
  intro p e s m args below meth c s₁ B hml hno hv
  obtain ⟨rfl, hsz, hK, hP, hD0, hZ⟩ := hv
  have hts := atoms_spec (ws := Cond.code y cc mL rt :: WS) B.pre
  subst hsz
  have hl := lv_entry av (n := mL) hn
  rw [lg_entry_eq]
  exact body p e s m below meth c (va_A Wd s.heap.size) ⟨B.exec, B.bytes, hml, by rw [← hw]; exact findClass_of_methodNamed B.named, fun w h => hts w (List.mem_cons_of_mem _ h)⟩ B.returns B.notSynchronized hno hK hZ hP hD0.self (fun q h => Or.inr h) va_S.rf _ hl
section
variable {p : Program} {l : Launch} {e : Env} {R : Room} {s : State} {m : MethodId} {args : Array Value} {below : List Frame} {meth : Method} {c : Code} {H : Heap} {locs : List Loc} {cells slots : Nat} {Q : State → Prop}
variable {cc : ByteArray} {nL : Nat} {own : String} {D : va_G} {Y : Nat → ClassId} {A : Nat → Prop} {ws wr Wc : va_W} {pc : Nat} {ls : Array Slot} {rest st0 : List Value} {index : Nat}
theorem lv_toc {x v : Int32} (h : x = v) (k : W p l e R s m args below meth c H locs cells slots Q (F0 m pc ls (.int v :: rest))) : W p l e R s m args below meth c H locs cells slots Q (F0 m pc ls (.int x :: rest)) := h ▸ k
theorem lv_tol {x v : Int64} (h : x = v) (k : W p l e R s m args below meth c H locs cells slots Q (F0 m pc ls (.long v :: rest))) : W p l e R s m args below meth c H locs cells slots Q (F0 m pc ls (.long x :: rest)) := h ▸ k
theorem gF {C ref : String} {T : u_T} {N ci : Nat} (F : CallFix p m c cc nL s args WS own) (hK : KV D Y s) (hP : va_P D vwCl ws H) {a : Nat} {g : Nat → Value} (q0 : Nat) (he : ws[q0]? = some (a, .inr (ci, fl N g))) (hc : vwCl[ci]? = some (C, T, N)) (hin : ∀ w ∈ u_ws C T N, w ∈ WS) (k : Nat) (hk : k < N) (hlink : Cond.fieldLink own index ref (T k).2.1 (T k).2.2.1 ∈ WS) (hsame : ∀ x, s.fieldFound? (T k).1 (T k).2.1 (T k).2.2.1 = some x → s.fieldFound? ref (T k).2.1 (T k).2.2.1 = some x) {v : Value} (hv : g k = v) (hdg : decode cc pc = .ok (.getfield index, 3))
    (kk : W p l e R s m args below meth c H locs cells slots Q (F0 m (pc + 3) ls (v :: rest))) : W p l e R s m args below meth c H locs cells slots Q (F0 m pc ls (.ref a :: rest)) :=
  va_get F.1 F.2.1 F.2.2.2.2 hin F.2.2.2.1 hK.1 hP q0 he hc k hk (F.2.2.2.2 _ hlink) hsame (fl_get hk hv) hdg kk
theorem pF {C ref : String} {T : u_T} {N ci : Nat} (F : CallFix p m c cc nL s args WS own) (hK : KV D Y s) (hP : va_P D vwCl ws H) (hD : va_D A ws) (hS : va_S A s.heap H locs) {a : Nat} {g : Nat → Value} (q0 : Nat) (he : ws[q0]? = some (a, .inr (ci, fl N g))) (hc : vwCl[ci]? = some (C, T, N)) (hin : ∀ w ∈ u_ws C T N, w ∈ WS) (ty0 : Nat → FieldType) (hty : ∀ k, k < N → parseFieldDescriptor (T k).2.2.1 = some (ty0 k)) (hnm : ∀ a, a < N → ∀ b, b < N → a ≠ b → (T a).2.1 ≠ (T b).2.1) (k : Nat) (hk : k < N) (hlink : Cond.fieldLink own index ref (T k).2.1 (T k).2.2.1 ∈ WS) (hsame : ∀ x, s.fieldFound? (T k).1 (T k).2.1 (T k).2.2.1 = some x → s.fieldFound? ref (T k).2.1 (T k).2.2.1 = some x) (hfin : (T k).2.2.2 = false) {v : Value} (hn : narrow (ty0 k) v = v) (hfit : fits (ty0 k) v = true) (hdg : decode cc pc = .ok (.putfield index, 3))
    (kk : ∀ (H1 : Heap) (locs1 : List Loc), va_P D vwCl (ws.set q0 (a, .inr (ci, fl N (va_up g k v)))) H1 → va_D A (ws.set q0 (a, .inr (ci, fl N (va_up g k v)))) → va_S A s.heap H1 locs1 → W p l e R s m args below meth c H1 locs1 cells slots Q (F0 m (pc + 3) ls rest)) : W p l e R s m args below meth c H locs cells slots Q (F0 m pc ls (v :: .ref a :: rest)) :=
  va_put F.1 F.2.1 F.2.2.2.2 hin ty0 hty hnm F.2.2.2.1 hK.1 hP hD hS q0 he hc k hk (F.2.2.2.2 _ hlink) hsame hfin (hty k hk) hn hfit (by rw [fl_len]; exact hk) hdg (by rw [fl_set]; exact kk)
theorem pFF {C ref : String} {T : u_T} {N ci : Nat} (F : CallFix p m c cc nL s args WS own) (hin2 : meth.name = "<init>") (hK : KV D Y s) (hP : va_P D vwCl ws H) (hD : va_D A ws) (hS : va_S A s.heap H locs) {a : Nat} {g : Nat → Value} (q0 : Nat) (he : ws[q0]? = some (a, .inr (ci, fl N g))) (hc : vwCl[ci]? = some (C, T, N)) (hin : ∀ w ∈ u_ws C T N, w ∈ WS) (ty0 : Nat → FieldType) (hty : ∀ k, k < N → parseFieldDescriptor (T k).2.2.1 = some (ty0 k)) (hnm : ∀ a, a < N → ∀ b, b < N → a ≠ b → (T a).2.1 ≠ (T b).2.1) (k : Nat) (hk : k < N) (hlink : Cond.fieldLink own index ref (T k).2.1 (T k).2.2.1 ∈ WS) (hsame : ∀ x, s.fieldFound? (T k).1 (T k).2.1 (T k).2.2.1 = some x → s.fieldFound? ref (T k).2.1 (T k).2.2.1 = some x) (hfin : (T k).2.2.2 = true) (hdecl : (T k).1 = own) {v : Value} (hn : narrow (ty0 k) v = v) (hfit : fits (ty0 k) v = true) (hdg : decode cc pc = .ok (.putfield index, 3))
    (kk : ∀ (H1 : Heap) (locs1 : List Loc), va_P D vwCl (ws.set q0 (a, .inr (ci, fl N (va_up g k v)))) H1 → va_D A (ws.set q0 (a, .inr (ci, fl N (va_up g k v)))) → va_S A s.heap H1 locs1 → W p l e R s m args below meth c H1 locs1 cells slots Q (F0 m (pc + 3) ls rest)) : W p l e R s m args below meth c H locs cells slots Q (F0 m pc ls (v :: .ref a :: rest)) :=
  va_putF F.1 F.2.1 F.2.2.2.2 hin ty0 hty hnm F.2.2.2.1 hK.1 hP hD hS q0 he hc k hk (F.2.2.2.2 _ hlink) hsame hfin hin2 hdecl (hty k hk) hn hfit (by rw [fl_len]; exact hk) hdg (by rw [fl_set]; exact kk)
theorem nO {C : String} {T : u_T} {N ci : Nat} (F : CallFix p m c cc nL s args WS own) (hK : KV D Y s) (hP : va_P D vwCl ws H) (hD : va_D A ws) (hS : va_S A s.heap H locs) (hA : ∀ q, s.heap.size ≤ q → A q) (hc : vwCl[ci]? = some (C, T, N)) (hin : ∀ w ∈ u_ws C T N, w ∈ WS) (ty0 : Nat → FieldType) (hty : ∀ k, k < N → parseFieldDescriptor (T k).2.2.1 = some (ty0 k)) (h1 : Cond.classLink own index C ∈ WS) (h2 : Cond.instantiable C N ∈ WS) (h3 : Cond.initialized C ∈ WS) (hcells : cells + 1 ≤ R.cells) (hslots : slots + N ≤ R.slots) (hdg : decode cc pc = .ok (.new index, 3))
    (kk : ∀ (q : Nat) (H1 : Heap), va_P D vwCl (ws ++ [(q, .inr (ci, fl N (fun k => defaultValue (ty0 k))))]) H1 → va_D A (ws ++ [(q, .inr (ci, fl N (fun k => defaultValue (ty0 k))))]) → va_S A s.heap H1 locs → W p l e R s m args below meth c H1 locs (cells + 1) (slots + N) Q (F0 m (pc + 3) ls (.ref q :: rest))) : W p l e R s m args below meth c H locs cells slots Q (F0 m pc ls rest) :=
  va_new F.1 F.2.1 F.2.2.2.2 hin ty0 hty F.2.2.2.1 (F.2.2.2.2 _ h1) (F.2.2.2.2 _ h2) (F.2.2.2.2 _ h3) hK.1 hP hD hS hA hc (fun j hj => (fl_V (g := fun k => defaultValue (ty0 k)) hj).symm) hcells hslots hdg kk
theorem nA {atype : ArrayType} {ty : FieldType} {a0 : vp_A} {n : Int32} {N' : Nat} {cA0 : ClassId} (F : CallFix p m c cc nL s args WS own) (hK : KV D Y s) (hP : va_P D vwCl ws H) (hD : va_D A ws) (hS : va_S A s.heap H locs) (hA : ∀ q, s.heap.size ≤ q → A q) (t0 : Nat) (ht : (TT Y)[t0]? = some (cA0, ty)) (hra : ∀ c : ClassId, va_RA s c ty → s.vm.findClass ("[" ++ ty.toString) = some c) (h1 : Cond.arrayClass ty ∈ WS) (hty : newarray.typeOf atype = ty) (ha : ∀ cA : ClassId, vp_cell cA a0 = arrV cA N' (fun _ => defaultValue ty)) (hn : ¬ n < 0) (hN : n.toNatClampNeg = N') (hbytes : N' * componentBytes ty ≤ 536870912) (hcells : cells + 1 ≤ R.cells) (hslots : slots + N' ≤ R.slots) (hdg : decode cc pc = .ok (.newarray atype, 2))
    (kk : ∀ (q : Nat) (H1 : Heap), va_P D vwCl (ws ++ [(q, .inl (cA0, a0))]) H1 → va_D A (ws ++ [(q, .inl (cA0, a0))]) → va_S A s.heap H1 locs → W p l e R s m args below meth c H1 locs (cells + 1) (slots + N') Q (F0 m (pc + 2) ls (.ref q :: rest))) : W p l e R s m args below meth c H locs cells slots Q (F0 m pc ls (.int n :: rest)) := by
  refine va_newa F.1 F.2.1 (by rw [hty]; exact F.2.2.2.2 _ h1) hty hK.1 hP hD hS hA ha hn hN hbytes hcells hslots hdg (fun q cA H1 hK1 hP1 hD1 hS1 => ?_)
  have e1 := hra _ (hK1.2 (TT Y).length (cA, ty) (by simp)).2
  have e2 := hra _ (hK.1.2 t0 (cA0, ty) ht).2
  have e3 : cA = cA0 := Option.some.inj (e1.symm.trans e2)
  subst e3
  exact kk q H1 hP1 hD1 hS1
theorem cbOf (F : CallFix p m c cc nL s args WS own) {y : MethodName} {bytes : ByteArray} {mL : Nat} {rt : Option FieldType} {d mc ms n : Nat} (h1 : Cond.methodLink own index y ∈ WS) (h4 : Cond.initialized y.cls ∈ WS) (h5 : Cond.code y bytes mL rt ∈ WS) (hd : y.cls ≠ "java/lang/invoke/MethodHandle" ∧ y.cls ≠ "java/lang/invoke/VarHandle" ∧ (parseMethodDescriptor y.desc).map (fun d => d.parameters.length) = some n) (hR : 10 * d + 1 ≤ R.frames ∧ 8 + (mL + 11) + 200 * d ≤ R.locals) :
    CallB R s args own index y bytes mL rt (Cond.code y bytes mL rt :: WS) (rm d mc ms) mc ms n :=
  callB_of n F.2.2.2.2 (gIn h5) rfl rfl rfl (F.2.2.2.2 _ h4) (F.2.2.2.2 _ h1) hd hR
theorem runV {n : Nat} {y : MethodName} {bytes : ByteArray} {mL : Nat} {rt : Option FieldType} {d mc ms : Nat} {b : Nat} {As : List Value} {Qc : QT} {ci : Nat} {C : String} {T : u_T} {N : Nat} {fs : List Value} (F : CallFix p m c cc nL s args WS own) (hK : KV D Y s) (hZ : ZZ A s s.heap) (hP : va_P D vwCl ws H) (hD : va_D A ws) (hS : va_S A s.heap H locs) (hA : ∀ q, s.heap.size ≤ q → A q) (hM : cM l D Y y bytes mL rt d mc ms (.ref b :: As) Wc Qc) (q0 : Nat) (he : ws[q0]? = some (b, .inr (ci, fs))) (hc : vwCl[ci]? = some (C, T, N)) (isC : List Nat) (hC : isC.map (fun i => ws[i]?) = Wc.map some) (hn : va_nd isC = true) (h1 : Cond.methodLink own index y ∈ WS) (h2 : Cond.instanceMethod y ∈ WS) (h3 : Cond.selects C y y ∈ WS) (h4 : Cond.initialized y.cls ∈ WS) (h5 : Cond.code y bytes mL rt ∈ WS) (hd : y.cls ≠ "java/lang/invoke/MethodHandle" ∧ y.cls ≠ "java/lang/invoke/VarHandle" ∧ (parseMethodDescriptor y.desc).map (fun d => d.parameters.length) = some n) (hna : As.length = n) (hR : 10 * d + 1 ≤ R.frames ∧ 8 + (mL + 11) + 200 * d ≤ R.locals) (hsize : ls.size = nL) (hst : st0 = As.reverse ++ .ref b :: rest) (hW : (rest.map fun v => v.category).sum ≤ 8) (hdg : decode cc pc = .ok (.invokevirtual index, 3)) (hf : cells + mc ≤ R.cells ∧ slots + ms ≤ R.slots) :
    va_Run p l e R s m args below meth c H locs cells slots mc ms (F0 m pc ls st0) rest (Qc (va_A Wc H.size) (Value.ref b :: As).toArray) (va_A Wc H.size) :=
  va_runV F (hM H.size) ⟨cbOf F h1 h4 h5 hd hR, F.2.2.2.2 _ h2, F.2.2.2.2 _ h3⟩ ⟨pre_blind, va_recv hK.1 hP hc he, fun U hU hW => ⟨rfl, pre_of hK hZ hP hD hS hA isC hC hn U hU hW⟩⟩ rfl hna hsize hst (lv_room hW) hdg hf
theorem runS {n : Nat} {y : MethodName} {bytes : ByteArray} {mL : Nat} {rt : Option FieldType} {d mc ms : Nat} {As : List Value} {Qc : QT} (F : CallFix p m c cc nL s args WS own) (hK : KV D Y s) (hZ : ZZ A s s.heap) (hP : va_P D vwCl ws H) (hD : va_D A ws) (hS : va_S A s.heap H locs) (hA : ∀ q, s.heap.size ≤ q → A q) (hM : cM l D Y y bytes mL rt d mc ms As Wc Qc) (isC : List Nat) (hC : isC.map (fun i => ws[i]?) = Wc.map some) (hn : va_nd isC = true) (h1 : Cond.methodLink own index y ∈ WS) (h2 : Cond.static y ∈ WS) (h4 : Cond.initialized y.cls ∈ WS) (h5 : Cond.code y bytes mL rt ∈ WS) (hd : y.cls ≠ "java/lang/invoke/MethodHandle" ∧ y.cls ≠ "java/lang/invoke/VarHandle" ∧ (parseMethodDescriptor y.desc).map (fun d => d.parameters.length) = some n) (hna : As.length = n) (hR : 10 * d + 1 ≤ R.frames ∧ 8 + (mL + 11) + 200 * d ≤ R.locals) (hsize : ls.size = nL) (hst : st0 = As.reverse ++ rest) (hW : (rest.map fun v => v.category).sum ≤ 8) (hdg : decode cc pc = .ok (.invokestatic index, 3)) (hf : cells + mc ≤ R.cells ∧ slots + ms ≤ R.slots) :
    va_Run p l e R s m args below meth c H locs cells slots mc ms (F0 m pc ls st0) rest (Qc (va_A Wc H.size) As.toArray) (va_A Wc H.size) :=
  va_runS F (hM H.size) ⟨cbOf F h1 h4 h5 hd hR, F.2.2.2.2 _ h2⟩ ⟨pre_blind, fun U hU hW => ⟨rfl, pre_of hK hZ hP hD hS hA isC hC hn U hU hW⟩⟩ rfl hna hsize hst (lv_room hW) hdg hf
theorem runI {n : Nat} {y : MethodName} {bytes : ByteArray} {mL : Nat} {d mc ms : Nat} {b : Nat} {As : List Value} {Qc : QT} (F : CallFix p m c cc nL s args WS own) (hK : KV D Y s) (hZ : ZZ A s s.heap) (hP : va_P D vwCl ws H) (hD : va_D A ws) (hS : va_S A s.heap H locs) (hA : ∀ q, s.heap.size ≤ q → A q) (hM : cM l D Y y bytes mL none d mc ms (.ref b :: As) Wc Qc) (isC : List Nat) (hC : isC.map (fun i => ws[i]?) = Wc.map some) (hn : va_nd isC = true) (h1 : Cond.methodLink own index y ∈ WS) (h2 : Cond.instanceMethod y ∈ WS) (h4 : Cond.initialized y.cls ∈ WS) (h5 : Cond.code y bytes mL none ∈ WS) (hy1 : y.name = "<init>") (hd : y.cls ≠ "java/lang/invoke/MethodHandle" ∧ y.cls ≠ "java/lang/invoke/VarHandle" ∧ (parseMethodDescriptor y.desc).map (fun d => d.parameters.length) = some n) (hna : As.length = n) (hR : 10 * d + 1 ≤ R.frames ∧ 8 + (mL + 11) + 200 * d ≤ R.locals) (hsize : ls.size = nL) (hst : st0 = As.reverse ++ .ref b :: rest) (hW : (rest.map fun v => v.category).sum ≤ 8) (hdg : decode cc pc = .ok (.invokespecial index, 3)) (hf : cells + mc ≤ R.cells ∧ slots + ms ≤ R.slots) :
    va_Run p l e R s m args below meth c H locs cells slots mc ms (F0 m pc ls st0) rest (Qc (va_A Wc H.size) (Value.ref b :: As).toArray) (va_A Wc H.size) :=
  va_runI F (hM H.size) ⟨cbOf F h1 h4 h5 hd hR, hy1, F.2.2.2.2 _ h2⟩ ⟨pre_blind, fun U hU hW => ⟨rfl, pre_of hK hZ hP hD hS hA isC hC hn U hU hW⟩⟩ rfl hna hsize hst (lv_room hW) hdg hf
theorem runIN {n : Nat} {y : MethodName} {bytes : ByteArray} {mL : Nat} {host : String} {d mc ms : Nat} {b : Nat} {As : List Value} {Qc : QT} (F : CallFix p m c cc nL s args WS own) (hK : KV D Y s) (hZ : ZZ A s s.heap) (hP : va_P D vwCl ws H) (hD : va_D A ws) (hS : va_S A s.heap H locs) (hA : ∀ q, s.heap.size ≤ q → A q) (hM : cM l D Y y bytes mL none d mc ms (.ref b :: As) Wc Qc) (isC : List Nat) (hC : isC.map (fun i => ws[i]?) = Wc.map some) (hn : va_nd isC = true) (h1 : va_Nw (.methodLinkNest own index y host) s) (h2 : Cond.instanceMethod y ∈ WS) (h4 : Cond.initialized y.cls ∈ WS) (h5 : Cond.code y bytes mL none ∈ WS) (hy1 : y.name = "<init>") (hd : y.cls ≠ "java/lang/invoke/MethodHandle" ∧ y.cls ≠ "java/lang/invoke/VarHandle" ∧ (parseMethodDescriptor y.desc).map (fun d => d.parameters.length) = some n) (hna : As.length = n) (hR : 10 * d + 1 ≤ R.frames ∧ 8 + (mL + 11) + 200 * d ≤ R.locals) (hsize : ls.size = nL) (hst : st0 = As.reverse ++ .ref b :: rest) (hW : (rest.map fun v => v.category).sum ≤ 8) (hdg : decode cc pc = .ok (.invokespecial index, 3)) (hf : cells + mc ≤ R.cells ∧ slots + ms ≤ R.slots) :
    va_Run p l e R s m args below meth c H locs cells slots mc ms (F0 m pc ls st0) rest (Qc (va_A Wc H.size) (Value.ref b :: As).toArray) (va_A Wc H.size) :=
  va_runIN F (hM H.size) ⟨va_cnB n F.2.2.2.2 (gIn h5) rfl rfl rfl h1 (F.2.2.2.2 _ h4) hd hR, hy1, F.2.2.2.2 _ h2⟩ ⟨pre_blind, fun U hU hW => ⟨rfl, pre_of hK hZ hP hD hS hA isC hC hn U hU hW⟩⟩ rfl hna hsize hst (lv_room hW) hdg hf
theorem xrunV {n : Nat} {y : MethodName} {bytes : ByteArray} {mL : Nat} {rt : Option FieldType} {d mc ms : Nat} {b : Nat} {As : List Value} {Qc : QT} {px : String → Prop} {ci : Nat} {C : String} {T : u_T} {N : Nat} {fs : List Value} (F : CallFix p m c cc nL s args WS own) (hK : KV D Y s) (hZ : ZZ A s s.heap) (hP : va_P D vwCl ws H) (hD : va_D A ws) (hS : va_S A s.heap H locs) (hA : ∀ q, s.heap.size ≤ q → A q) (hM : xM l D Y y bytes mL rt d mc ms (.ref b :: As) Wc Qc px) (q0 : Nat) (he : ws[q0]? = some (b, .inr (ci, fs))) (hc : vwCl[ci]? = some (C, T, N)) (isC : List Nat) (hC : isC.map (fun i => ws[i]?) = Wc.map some) (hn : va_nd isC = true) (h1 : Cond.methodLink own index y ∈ WS) (h2 : Cond.instanceMethod y ∈ WS) (h3 : Cond.selects C y y ∈ WS) (h4 : Cond.initialized y.cls ∈ WS) (h5 : Cond.code y bytes mL rt ∈ WS) (hd : y.cls ≠ "java/lang/invoke/MethodHandle" ∧ y.cls ≠ "java/lang/invoke/VarHandle" ∧ (parseMethodDescriptor y.desc).map (fun d => d.parameters.length) = some n) (hna : As.length = n) (hR : 10 * d + 1 ≤ R.frames ∧ 8 + (mL + 11) + 200 * d ≤ R.locals) (hsize : ls.size = nL) (hst : st0 = As.reverse ++ .ref b :: rest) (hW : (rest.map fun v => v.category).sum ≤ 8) (hdg : decode cc pc = .ok (.invokevirtual index, 3)) (hf : cells + mc ≤ R.cells ∧ slots + ms ≤ R.slots) :
    vx_Run p l e R s m args below meth c H locs cells slots mc ms (F0 m pc ls st0) rest (Qc (va_A Wc H.size) (Value.ref b :: As).toArray) (qX px (va_A Wc H.size)) (va_A Wc H.size) :=
  vx_runV F (hM H.size) ⟨cbOf F h1 h4 h5 hd hR, F.2.2.2.2 _ h2, F.2.2.2.2 _ h3⟩ ⟨pre_blind, va_recv hK.1 hP hc he, fun U hU hW => ⟨rfl, pre_of hK hZ hP hD hS hA isC hC hn U hU hW⟩⟩ rfl hna hsize hst (lv_room hW) hdg hf
theorem goI {S : Type} {post : Int32 → S → Prop} {W1 : S → va_W} {mc ms : Nat} {a : Array Value} (hr : va_Run p l e R s m args below meth c H locs cells slots mc ms (F0 m pc ls st0) rest (qI D post W1 (va_A Wc H.size) a) (va_A Wc H.size)) (hP : va_P D vwCl ws H) (hD : va_D A ws) (hS : va_S A s.heap H locs) (hA : ∀ q, s.heap.size ≤ q → A q) (isC isR : List Nat) (hC : isC.map (fun i => ws[i]?) = Wc.map some) (hR : isR.map (fun i => ws[i]?) = wr.map some) (hn : va_nd isR = true) (hdis : ∀ i ∈ isR, i ∉ isC)
    (kk : ∀ (r : Int32) (u : S) (H1 : Heap) (locs1 : List Loc), post r u → va_P D vwCl (wr ++ W1 u) H1 → va_D A (wr ++ W1 u) → va_S A s.heap H1 locs1 → W p l e R s m args below meth c H1 locs1 (cells + mc) (slots + ms) Q (F0 m (pc + 3) ls (.int r :: rest))) : W p l e R s m args below meth c H locs cells slots Q (F0 m pc ls st0) := by
  have hFc := va_free hD hS hA isC hC
  refine va_calli hr hS (fun q _ h => hFc q h) hFc (fun r u t H1 locs1 ht hvm hw hB hz1 hk1 hS1 => ?_)
  obtain ⟨hP1, hD1⟩ := hB
  rw [ht] at hP1
  obtain ⟨hP2, hD2⟩ := va_join hP hD isC isR hC hR hn hdis hk1 hFc hP1 hD1
  exact kk r u H1 locs1 hw hP2 hD2 hS1
theorem goL {S : Type} {post : Int64 → S → Prop} {W1 : S → va_W} {mc ms : Nat} {a : Array Value} (hr : va_Run p l e R s m args below meth c H locs cells slots mc ms (F0 m pc ls st0) rest (qL D post W1 (va_A Wc H.size) a) (va_A Wc H.size)) (hP : va_P D vwCl ws H) (hD : va_D A ws) (hS : va_S A s.heap H locs) (hA : ∀ q, s.heap.size ≤ q → A q) (isC isR : List Nat) (hC : isC.map (fun i => ws[i]?) = Wc.map some) (hR : isR.map (fun i => ws[i]?) = wr.map some) (hn : va_nd isR = true) (hdis : ∀ i ∈ isR, i ∉ isC)
    (kk : ∀ (r : Int64) (u : S) (H1 : Heap) (locs1 : List Loc), post r u → va_P D vwCl (wr ++ W1 u) H1 → va_D A (wr ++ W1 u) → va_S A s.heap H1 locs1 → W p l e R s m args below meth c H1 locs1 (cells + mc) (slots + ms) Q (F0 m (pc + 3) ls (.long r :: rest))) : W p l e R s m args below meth c H locs cells slots Q (F0 m pc ls st0) := by
  have hFc := va_free hD hS hA isC hC
  refine va_calll hr hS (fun q _ h => hFc q h) hFc (fun r u t H1 locs1 ht hvm hw hB hz1 hk1 hS1 => ?_)
  obtain ⟨hP1, hD1⟩ := hB
  rw [ht] at hP1
  obtain ⟨hP2, hD2⟩ := va_join hP hD isC isR hC hR hn hdis hk1 hFc hP1 hD1
  exact kk r u H1 locs1 hw hP2 hD2 hS1
theorem goV {S : Type} {post : S → Prop} {W1 : S → va_W} {mc ms : Nat} {a : Array Value} (hr : va_Run p l e R s m args below meth c H locs cells slots mc ms (F0 m pc ls st0) rest (qV D post W1 (va_A Wc H.size) a) (va_A Wc H.size)) (hP : va_P D vwCl ws H) (hD : va_D A ws) (hS : va_S A s.heap H locs) (hA : ∀ q, s.heap.size ≤ q → A q) (isC isR : List Nat) (hC : isC.map (fun i => ws[i]?) = Wc.map some) (hR : isR.map (fun i => ws[i]?) = wr.map some) (hn : va_nd isR = true) (hdis : ∀ i ∈ isR, i ∉ isC)
    (kk : ∀ (u : S) (H1 : Heap) (locs1 : List Loc), post u → va_P D vwCl (wr ++ W1 u) H1 → va_D A (wr ++ W1 u) → va_S A s.heap H1 locs1 → W p l e R s m args below meth c H1 locs1 (cells + mc) (slots + ms) Q (F0 m (pc + 3) ls rest)) : W p l e R s m args below meth c H locs cells slots Q (F0 m pc ls st0) := by
  have hFc := va_free hD hS hA isC hC
  refine va_callv hr hS (fun q _ h => hFc q h) hFc (fun u t H1 locs1 ht hvm hw hB hz1 hk1 hS1 => ?_)
  obtain ⟨hP1, hD1⟩ := hB
  rw [ht] at hP1
  obtain ⟨hP2, hD2⟩ := va_join hP hD isC isR hC hR hn hdis hk1 hFc hP1 hD1
  exact kk u H1 locs1 hw hP2 hD2 hS1
theorem restP (hP : va_P D vwCl ws H) (hD : va_D A ws) (isC isR : List Nat) (hC : isC.map (fun i => ws[i]?) = Wc.map some) (hR : isR.map (fun i => ws[i]?) = wr.map some) (hn : va_nd isR = true) (hdis : ∀ i ∈ isR, i ∉ isC) {H1 : Heap} (hk : ∀ q : Nat, q < H.size → ¬ va_A Wc H.size q → H1[q]? = H[q]?) (hF : ∀ q, va_A Wc H.size q → A q) : va_P D vwCl wr H1 ∧ va_D A wr := by
  obtain ⟨h1, h2⟩ := va_join (w1 := []) hP hD isC isR hC hR hn hdis hk hF (fun k q h => by simp at h) ⟨fun i j p q h => by simp at h, fun k q h => by simp at h⟩
  rw [List.append_nil] at h1 h2
  exact ⟨h1, h2⟩
theorem xgoI {S : Type} {post : Int32 → S → Prop} {W1 : S → va_W} {px : String → Prop} {mc ms : Nat} {a : Array Value} (hr : vx_Run p l e R s m args below meth c H locs cells slots mc ms (F0 m pc ls st0) rest (qI D post W1 (va_A Wc H.size) a) (qX px (va_A Wc H.size)) (va_A Wc H.size)) (hP : va_P D vwCl ws H) (hD : va_D A ws) (hS : va_S A s.heap H locs) (hA : ∀ q, s.heap.size ≤ q → A q) (isC isR : List Nat) (hC : isC.map (fun i => ws[i]?) = Wc.map some) (hR : isR.map (fun i => ws[i]?) = wr.map some) (hn : va_nd isR = true) (hdis : ∀ i ∈ isR, i ∉ isC)
    (kx : ∀ (E : String) (ce : Cell) (q9 : Addr) (H1 : Heap) (locs1 : List Loc), px E → va_P D vwCl wr H1 → va_D A wr → va_S A s.heap H1 locs1 → H1[q9]? = some ce → ce.vm = .none → s.vm.findClass E = some ce.cls → vx_W p l e R s m args below meth c H1 locs1 (cells + mc) (slots + ms) Q (F0 m pc ls rest) q9)
    (kk : ∀ (r : Int32) (u : S) (H1 : Heap) (locs1 : List Loc), post r u → va_P D vwCl (wr ++ W1 u) H1 → va_D A (wr ++ W1 u) → va_S A s.heap H1 locs1 → W p l e R s m args below meth c H1 locs1 (cells + mc) (slots + ms) Q (F0 m (pc + 3) ls (.int r :: rest))) : W p l e R s m args below meth c H locs cells slots Q (F0 m pc ls st0) := by
  have hFc := va_free hD hS hA isC hC
  refine vx_calli hr hS (fun q _ h => hFc q h) hFc (fun q _ h => hFc q h) (fun E ce q9 u t H1 locs1 ht hvm _ hE hz1 hk1 hS1 h1 h2 h3 => ?_) (fun r u t H1 locs1 ht hvm hw hB hz1 hk1 hS1 => ?_)
  · obtain ⟨hP2, hD2⟩ := restP hP hD isC isR hC hR hn hdis hk1 hFc
    exact kx E ce q9 H1 locs1 hE hP2 hD2 hS1 h1 h2 h3
  · obtain ⟨hP1, hD1⟩ := hB
    rw [ht] at hP1
    obtain ⟨hP2, hD2⟩ := va_join hP hD isC isR hC hR hn hdis hk1 hFc hP1 hD1
    exact kk r u H1 locs1 hw hP2 hD2 hS1
theorem xgoV {S : Type} {post : S → Prop} {W1 : S → va_W} {px : String → Prop} {mc ms : Nat} {a : Array Value} (hr : vx_Run p l e R s m args below meth c H locs cells slots mc ms (F0 m pc ls st0) rest (qV D post W1 (va_A Wc H.size) a) (qX px (va_A Wc H.size)) (va_A Wc H.size)) (hP : va_P D vwCl ws H) (hD : va_D A ws) (hS : va_S A s.heap H locs) (hA : ∀ q, s.heap.size ≤ q → A q) (isC isR : List Nat) (hC : isC.map (fun i => ws[i]?) = Wc.map some) (hR : isR.map (fun i => ws[i]?) = wr.map some) (hn : va_nd isR = true) (hdis : ∀ i ∈ isR, i ∉ isC)
    (kx : ∀ (E : String) (ce : Cell) (q9 : Addr) (H1 : Heap) (locs1 : List Loc), px E → va_P D vwCl wr H1 → va_D A wr → va_S A s.heap H1 locs1 → H1[q9]? = some ce → ce.vm = .none → s.vm.findClass E = some ce.cls → vx_W p l e R s m args below meth c H1 locs1 (cells + mc) (slots + ms) Q (F0 m pc ls rest) q9)
    (kk : ∀ (u : S) (H1 : Heap) (locs1 : List Loc), post u → va_P D vwCl (wr ++ W1 u) H1 → va_D A (wr ++ W1 u) → va_S A s.heap H1 locs1 → W p l e R s m args below meth c H1 locs1 (cells + mc) (slots + ms) Q (F0 m (pc + 3) ls rest)) : W p l e R s m args below meth c H locs cells slots Q (F0 m pc ls st0) := by
  have hFc := va_free hD hS hA isC hC
  refine vx_callv hr hS (fun q _ h => hFc q h) hFc (fun q _ h => hFc q h) (fun E ce q9 u t H1 locs1 ht hvm _ hE hz1 hk1 hS1 h1 h2 h3 => ?_) (fun u t H1 locs1 ht hvm hw hB hz1 hk1 hS1 => ?_)
  · obtain ⟨hP2, hD2⟩ := restP hP hD isC isR hC hR hn hdis hk1 hFc
    exact kx E ce q9 H1 locs1 hE hP2 hD2 hS1 h1 h2 h3
  · obtain ⟨hP1, hD1⟩ := hB
    rw [ht] at hP1
    obtain ⟨hP2, hD2⟩ := va_join hP hD isC isR hC hR hn hdis hk1 hFc hP1 hD1
    exact kk u H1 locs1 hw hP2 hD2 hS1
theorem xOut {Qc : Array Value → State → Outcome → State → Prop} {px : String → Prop} {E : String} {ce : Cell} {q9 : Addr} {mc ms : Nat} (hno : ∀ x ∈ c.exceptionTable.toList, False) (hlocks : meth.locks = false) (hE : px E) (hS : va_S A s.heap H locs) (h1 : H[q9]? = some ce) (h2 : ce.vm = .none) (h3 : s.vm.findClass E = some ce.cls) (hc : cells ≤ mc) (hs : slots ≤ ms) :
    vx_W p l e R s m args below meth c H locs cells slots (vx_MQ below Qc (qX px A) args s mc ms A) (F0 m pc ls rest) q9 :=
  vx_out (fun x hx => (hno x hx).elim) hlocks h1 h2 h3 (fun t ht _ => ⟨(), trivial, hE, hS.F ht⟩) hS.2.2 hc hs
theorem retI {S : Type} {post : Int32 → S → Prop} {W1 : S → va_W} {mc ms : Nat} {v : Int32} (F : CallFix p m c cc nL s args WS own) {ty : FieldType} (hr : meth.sig.returnType = some ty) (hlocks : meth.locks = false) (hnar : narrow ty (.int v) = .int v) (hP : va_P D vwCl ws H) (hD : va_D A ws) (hS : va_S A s.heap H locs) (u : S) (is : List Nat) (hn : va_nd is = true) (hi : is.map (fun i => ws[i]?) = (W1 u).map some) (hc : cells ≤ mc) (hs : slots ≤ ms) (hdg : decode cc pc = .ok (.ireturn, 1)) (hp : post v u) :
    W p l e R s m args below meth c H locs cells slots (MQ below (qI D post W1 A) args s mc ms A) (F0 m pc ls [.int v]) := by
  refine W.widen (k := mc) (n := ms) hc hs ?_
  refine W.zret (v := v) F.1 F.2.1 hr hnar (fun t ht hW => ⟨⟨v, u, rfl, hp, ?_, hD.sub is hn hi⟩, hS.F ht⟩) hS.2.2 hdg hlocks
  rw [ht]
  exact hP.sub is (by
    have h := congrArg (fun l => List.filterMap id l) hi
    simpa [List.filterMap_map, Function.comp_def] using h)
theorem retL {S : Type} {post : Int64 → S → Prop} {W1 : S → va_W} {mc ms : Nat} {v : Int64} (F : CallFix p m c cc nL s args WS own) (hr : meth.sig.returnType = some .long) (hlocks : meth.locks = false) (hP : va_P D vwCl ws H) (hD : va_D A ws) (hS : va_S A s.heap H locs) (u : S) (is : List Nat) (hn : va_nd is = true) (hi : is.map (fun i => ws[i]?) = (W1 u).map some) (hc : cells ≤ mc) (hs : slots ≤ ms) (hdg : decode cc pc = .ok (.lreturn, 1)) (hp : post v u) :
    W p l e R s m args below meth c H locs cells slots (MQ below (qL D post W1 A) args s mc ms A) (F0 m pc ls [.long v]) := by
  refine W.widen (k := mc) (n := ms) hc hs ?_
  refine W.lret (v := v) F.1 F.2.1 hr (fun t ht hW => ⟨⟨v, u, rfl, hp, ?_, hD.sub is hn hi⟩, hS.F ht⟩) hS.2.2 hdg hlocks
  rw [ht]
  exact hP.sub is (by
    have h := congrArg (fun l => List.filterMap id l) hi
    simpa [List.filterMap_map, Function.comp_def] using h)
theorem retV {S : Type} {post : S → Prop} {W1 : S → va_W} {mc ms : Nat} (F : CallFix p m c cc nL s args WS own) (hr : meth.sig.returnType = none) (hlocks : meth.locks = false) (hP : va_P D vwCl ws H) (hD : va_D A ws) (hS : va_S A s.heap H locs) (u : S) (is : List Nat) (hn : va_nd is = true) (hi : is.map (fun i => ws[i]?) = (W1 u).map some) (hc : cells ≤ mc) (hs : slots ≤ ms) (hdg : decode cc pc = .ok (.return_, 1)) (hp : post u) :
    W p l e R s m args below meth c H locs cells slots (MQ below (qV D post W1 A) args s mc ms A) (F0 m pc ls []) := by
  refine W.widen (k := mc) (n := ms) hc hs ?_
  refine W.vret F.1 F.2.1 hr (fun t ht hW => ⟨⟨u, rfl, hp, ?_, hD.sub is hn hi⟩, hS.F ht⟩) hS.2.2 hdg hlocks
  rw [ht]
  exact hP.sub is (by
    have h := congrArg (fun l => List.filterMap id l) hi
    simpa [List.filterMap_map, Function.comp_def] using h)
theorem dropW (hP : va_P D vwCl ws H) (hD : va_D A ws) (is : List Nat) (hn : va_nd is = true) (hi : is.map (fun i => ws[i]?) = wr.map some) : va_P D vwCl wr H ∧ va_D A wr :=
  ⟨hP.sub is (by
    have h := congrArg (fun l => List.filterMap id l) hi
    simpa [List.filterMap_map, Function.comp_def] using h), hD.sub is hn hi⟩
theorem nTop {C : String} {T : u_T} {N : Nat} {x : Nat} (hin : ∀ w ∈ u_ws C T N, w ∈ WS) (hx : x = x) : True := trivial
theorem oInit (F : CallFix p m c cc nL s args WS own) (h1 : Cond.methodLink own index objectInit ∈ WS) (h2 : Cond.instanceMethod objectInit ∈ WS) (h3 : Cond.code objectInit ⟨#[0xb1]⟩ 1 none ∈ WS) {a : Nat} (hsize : ls.size = nL) (hdg : decode cc pc = .ok (.invokespecial index, 3)) (hf : 1 ≤ R.frames) (hlo : (rest.map fun v => v.category).sum + 12 ≤ R.locals)
    (kk : W p l e R s m args below meth c H locs cells slots Q (F0 m (pc + 3) ls rest)) : W p l e R s m args below meth c H locs cells slots Q (F0 m pc ls (.ref a :: rest)) := by
  refine W.objInit F.1 F.2.1 F.2.2.2.1 (F.2.2.2.2 _ h1) (F.2.2.2.2 _ h2) (F.2.2.2.2 _ h3) rfl (by rw [F.2.2.1]; exact hsize) rfl hdg hf (by simpa [JFrame.monitorRoom] using hlo) ?_
  exact W.eq (g2 := F0 m (pc + 3) ls rest) rfl kk
end
section
variable {p : Program} {l : Launch} {e : Env} {R : Room} {s : State} {m : MethodId} {args : Array Value} {below : List Frame} {meth : Method} {c : Code} {H : Heap} {locs : List Loc} {cells slots : Nat} {Q : State → Prop}
variable {cc : ByteArray} {nL : Nat} {own : String} {D : va_G} {Y : Nat → ClassId} {A : Nat → Prop} {pc : Nat} {ls : Array Slot} {rest st0 : List Value} {index : Nat}
abbrev nmsE : List String := ["java/lang/RuntimeException", "java/lang/Exception"]
theorem hat_iae (F : CallFix p m c cc nL s args WS own) (hc : va_Nw (.castable iae iae) s) (hd : KD s) : ∀ w ∈ vx_atS RX9 296 iae nmsE, w.before args s = true :=
  vx_hat (B := [.castable iae iae, .declares (Bundle.initS "java/lang/RuntimeException"), .declares (Bundle.initS "java/lang/Exception"), .declares (Bundle.initS Bundle.tN)]) (fun w h => F.2.2.2.2 w (WS_e2 w h)) (by decide +kernel) (vx_c (va_Nw.use rfl hc) (vx_c (va_Nw.use rfl hd.1) (vx_c (va_Nw.use rfl hd.2.1) (vx_c (va_Nw.use rfl hd.2.2) vx_n))))
theorem hgo_iae : ∀ w ∈ Cond.classLink RX9 292 iae :: Cond.initialized iae :: vx_atS RX9 296 iae nmsE, vx_ot w = true := by decide +kernel
theorem xF {t : State} (hS : va_S A s.heap H locs) (h1 : H.size ≤ t.heap.size) (h2 : ∀ q : Nat, q < H.size → t.heap[q]? = H[q]?) : va_F A s t :=
  ⟨Nat.le_trans hS.1 h1, fun q hq hn => (h2 q (Nat.lt_of_lt_of_le hq hS.1)).trans (hS.2.1 q hq hn)⟩
theorem thrI {px : String → Prop} {Qc : Array Value → State → Outcome → State → Prop} {mc ms : Nat} (F : CallFix p m c cc nL s args WS RX9) (hfl : l.stackTraces = false) (hK : KV D Y s) (hZ : ZZ A s s.heap) (hS : va_S A s.heap H locs) (hno : ∀ x ∈ c.exceptionTable.toList, False) (hlocks : meth.locks = false) (hsize : ls.size = nL) (h1 : Cond.classLink RX9 292 iae ∈ WS) (h2 : Cond.initialized iae ∈ WS) (d0 : decode cc pc = .ok (.new 292, 3)) (d3 : decode cc (pc + 3) = .ok (.dup, 1)) (d4 : decode cc (pc + 4) = .ok (.ldc_w 294, 3)) (d7 : decode cc (pc + 7) = .ok (.invokespecial 296, 3)) (d10 : decode cc (pc + 10) = .ok (.athrow, 1)) (hE : px iae) (hRf : 5 < R.frames) (hRl : 82 ≤ R.locals) (hRc : cells + 1 ≤ R.cells) (hRs : slots + 6 ≤ R.slots) (hc : cells + 1 ≤ mc) (hs : slots + 6 ≤ ms) :
    W p l e R s m args below meth c H locs cells slots (vx_MQ below Qc (qX px A) args s mc ms A) (F0 m pc ls []) := by
  obtain ⟨sa, hstr⟩ := hK.2.2.1
  exact vx_throwSW (names := nmsE) F.1 F.2.1 hfl F.2.2.2.1 (by decide) (by decide) (F.2.2.2.2 _ h1) (F.2.2.2.2 _ h2) hstr (hat_iae F hK.2.2.2.2.2.2.1 hK.2.2.2.2.2.2.2.2) hgo_iae hZ.1 hZ.2 hS (by rw [F.2.2.1]; exact hsize) d0 d3 d4 d7 d10 (fun x hx => (hno x hx).elim) hRf hRl hRc hRs hlocks (fun t _ h1 h2 => ⟨(), trivial, hE, xF hS h1 h2⟩) hS.2.2 hc hs
end
theorem loopN {p : Program} {l : Launch} {e : Env} {R : Room} {s : State} {m : MethodId} {args : Array Value} {below : List Frame} {meth : Method} {c : Code} {H : Heap} {locs : List Loc} {cells slots : Nat} {Q : State → Prop} {ls : Array Slot} {X : Type} (N : Nat) (I : Nat → X → Heap → List Loc → Array Slot → Prop) (hd : Nat)
    (h0 : ∀ (x : X) (H : Heap) (locs : List Loc) (ls : Array Slot), I N x H locs ls → W p l e R s m args below meth c H locs cells slots Q (F0 m hd ls []))
    (hs : ∀ (i : Nat) (x : X) (H : Heap) (locs : List Loc) (ls : Array Slot), i < N → I i x H locs ls → (∀ (x' : X) (H' : Heap) (locs' : List Loc) (ls' : Array Slot), I (i + 1) x' H' locs' ls' → W p l e R s m args below meth c H' locs' cells slots Q (F0 m hd ls' [])) → W p l e R s m args below meth c H locs cells slots Q (F0 m hd ls []))
    (i : Nat) (x : X) (hi : i ≤ N) (hI : I i x H locs ls) : W p l e R s m args below meth c H locs cells slots Q (F0 m hd ls []) := by
  have key : ∀ (k i : Nat) (x : X) (H : Heap) (locs : List Loc) (ls : Array Slot), i + k = N → I i x H locs ls → W p l e R s m args below meth c H locs cells slots Q (F0 m hd ls []) := by
    intro k
    induction k with
    | zero =>
      intro i x H locs ls hk hI
      have : i = N := by omega
      subst this
      exact h0 x H locs ls hI
    | succ k ih =>
      intro i x H locs ls hk hI
      exact hs i x H locs ls (by omega) hI (fun x' H' locs' ls' hI' => ih (i + 1) x' H' locs' ls' (by omega) hI')
  exact key (N - i) i x H locs ls (by omega) hI
theorem gS {own : String} {index : Nat} {y : MethodName} {w : Cond} (h1 : Cond.methodLink own index y ∈ WS) (h2 : Cond.static y ∈ WS) (h4 : Cond.initialized y.cls ∈ WS) (h5 : w ∈ WS) : GoodIn WS (va_wsS own index y (w :: WS)) := by
  intro x hx
  have hm : x ∈ WS := by
    rcases List.mem_append.mp hx with h | h
    · simp only [List.mem_cons, List.not_mem_nil, or_false] at h
      rcases h with rfl | rfl | rfl
      · exact h1
      · exact h2
      · exact h4
    · rcases List.mem_cons.mp h with rfl | h
      · exact h5
      · exact h
  exact ⟨hm, WS_all x hm⟩
theorem hM.mk {l : Launch} {D : va_G} {Y : Nat → ClassId} {y : MethodName} {cc : ByteArray} {mL : Nat} {rt : Option FieldType} {hh : List (Nat × Nat × Nat × Nat)} {d mc ms : Nat} {av : List Value} {Wd : va_W} {Qc : QT} (own : String) (hw : y.cls = own) (hy : plainName y.cls = true) (hn : (lg_sl av).length ≤ mL)
    (body : ∀ (p : Program) (e : Env) (s : State) (m : MethodId) (below : List Frame) (meth : Method) (c : Code) (A : Nat → Prop), CallFix p m c cc mL s av.toArray WS own → meth.sig.returnType = rt → meth.locks = false → c.exceptionTable.toList = tableOf hh → KV D Y s → ZZ A s s.heap → va_P D vwCl Wd s.heap → va_D A Wd → (∀ q, s.heap.size ≤ q → A q) → va_S A s.heap s.heap [] → ∀ ls : Array Slot, lv_has ls mL (lv_args 0 av) →
      W p l e (rm d mc ms) s m av.toArray below meth c s.heap [] 0 0 (MQ below (Qc A) av.toArray s mc ms A) (F0 m 0 ls [])) : hM l D Y y cc mL rt hh d mc ms av Wd Qc := by
  intro sz
  refine va_MetW (cc := cc) (maxL := mL) (ret := rt) (hh := hh) hy rfl ?_
  intro p e s m args below meth c s₁ B hml hv
  obtain ⟨rfl, hsz, hK, hP, hD0, hZ⟩ := hv
  have hts := atoms_spec (ws := Cond.codeWith y cc mL rt hh :: WS) B.pre
  subst hsz
  have hl := lv_entry av (n := mL) hn
  rw [lg_entry_eq]
  exact body p e s m below meth c (va_A Wd s.heap.size) ⟨B.exec, B.bytes, hml, by rw [← hw]; exact findClass_of_methodNamed B.named, fun w h => hts w (List.mem_cons_of_mem _ h)⟩ B.returns B.notSynchronized (vx_table (x := y) B (hts _ List.mem_cons_self)) hK hZ hP hD0.self (fun q h => Or.inr h) va_S.rf _ hl
theorem runH {p : Program} {l : Launch} {e : Env} {R : Room} {s : State} {m : MethodId} {args : Array Value} {below : List Frame} {meth : Method} {c : Code} {H : Heap} {locs : List Loc} {cells slots : Nat} {cc : ByteArray} {nL : Nat} {own : String} {D : va_G} {Y : Nat → ClassId} {A : Nat → Prop} {ws Wc : va_W} {pc : Nat} {ls : Array Slot} {rest st0 : List Value} {index : Nat} {n : Nat} {y : MethodName} {bytes : ByteArray} {mL : Nat} {rt : Option FieldType} {hh : List (Nat × Nat × Nat × Nat)} {d mc ms : Nat} {As : List Value} {Qc : QT} (F : CallFix p m c cc nL s args WS own) (hK : KV D Y s) (hZ : ZZ A s s.heap) (hP : va_P D vwCl ws H) (hD : va_D A ws) (hS : va_S A s.heap H locs) (hA : ∀ q, s.heap.size ≤ q → A q) (hQ : hM l D Y y bytes mL rt hh d mc ms As Wc Qc) (isC : List Nat) (hC : isC.map (fun i => ws[i]?) = Wc.map some) (hn : va_nd isC = true) (h1 : Cond.methodLink own index y ∈ WS) (h2 : Cond.static y ∈ WS) (h4 : Cond.initialized y.cls ∈ WS) (h5 : Cond.codeWith y bytes mL rt hh ∈ WS) (hd : y.cls ≠ "java/lang/invoke/MethodHandle" ∧ y.cls ≠ "java/lang/invoke/VarHandle" ∧ (parseMethodDescriptor y.desc).map (fun d => d.parameters.length) = some n) (hna : As.length = n) (hR : 10 * d + 1 ≤ R.frames ∧ 8 + (mL + 11) + 200 * d ≤ R.locals) (hsize : ls.size = nL) (hst : st0 = As.reverse ++ rest) (hW : (rest.map fun v => v.category).sum ≤ 8) (hdg : decode cc pc = .ok (.invokestatic index, 3)) (hf : cells + mc ≤ R.cells ∧ slots + ms ≤ R.slots) :
    va_Run p l e R s m args below meth c H locs cells slots mc ms (F0 m pc ls st0) rest (Qc (va_A Wc H.size) As.toArray) (va_A Wc H.size) :=
  vx_runSW F (hQ H.size) (vx_cwSW n F.2.2.2.2 (gS h1 h2 h4 h5) rfl rfl rfl hd hR) ⟨pre_blind, fun U hU hW => ⟨rfl, pre_of hK hZ hP hD hS hA isC hC hn U hU hW⟩⟩ rfl hna hsize hst (lv_room hW) hdg hf
theorem cM.cast {l : Launch} {D : va_G} {Y : Nat → ClassId} {y : MethodName} {cc : ByteArray} {mL : Nat} {rt : Option FieldType} {d mc ms : Nat} {av av' : List Value} {Wd : va_W} {Qc : QT} (h : cM l D Y y cc mL rt d mc ms av Wd Qc) (e : av = av') : cM l D Y y cc mL rt d mc ms av' Wd Qc := e ▸ h
