/-! the tables' words that a callee may take over, in one list for all methods -/
def BIG : List Cond := lw_tbl.filter goodWord
theorem big_mem {w : Cond} (i : Nat) (h : lw_tbl[i]? = some w) (hg : goodWord w = true) : w ∈ BIG := List.mem_filter.mpr ⟨List.mem_of_getElem? h, hg⟩
theorem big_good {w : Cond} (h : w ∈ BIG) : goodWord w = true := (List.mem_filter.mp h).2
theorem big_in {ws : List Cond} (h : ∀ w ∈ ws, w ∈ BIG) : GoodIn BIG ws := fun w hw => ⟨h w hw, good_of_word (big_good (h w hw))⟩
theorem big_tbl {w : Cond} (h : w ∈ BIG) : w ∈ lw_tbl := (List.mem_filter.mp h).1
theorem in_places {ws : List Cond} (ps : List Nat) (h : ws = ps.filterMap (fun i => lw_tbl[i]?)) (hg : ws.all goodWord = true) : ∀ w ∈ ws, w ∈ BIG := by
  intro w hw
  have hg1 := List.all_eq_true.mp hg w hw
  rw [h] at hw
  obtain ⟨i, -, hi⟩ := List.mem_filterMap.mp hw
  exact big_mem i hi hg1
def WS (y : MethodName) (b : ByteArray) (n : Nat) (r : Option FieldType) : List Cond := Cond.code y b n r :: BIG
theorem ws_big {y : MethodName} {b : ByteArray} {n : Nat} {r : Option FieldType} (h : Cond.code y b n r ∈ BIG) : ∀ w ∈ WS y b n r, w ∈ BIG := by
  intro w hw
  rcases List.mem_cons.mp hw with h2 | h2
  · rw [h2]; exact h
  · exact h2
theorem ws_good {y : MethodName} {b : ByteArray} {n : Nat} {r : Option FieldType} (h : Cond.code y b n r ∈ BIG) : GoodIn BIG (WS y b n r) := big_in (ws_big h)
theorem good_V {own C : String} {idx : Nat} {y : MethodName} {b : ByteArray} {n : Nat} {r : Option FieldType} (h1 : Cond.methodLink own idx y ∈ BIG) (h2 : Cond.instanceMethod y ∈ BIG) (h3 : Cond.selects C y y ∈ BIG) (h4 : Cond.initialized C ∈ BIG) (h5 : Cond.code y b n r ∈ BIG) : GoodIn BIG (wsV own idx C y (WS y b n r)) := by
  refine big_in (fun w hw => ?_)
  rcases List.mem_append.mp hw with h | h
  · simp only [List.mem_cons, List.not_mem_nil, or_false] at h
    rcases h with rfl | rfl | rfl | rfl <;> assumption
  · exact ws_big h5 w h
theorem good_S {own : String} {idx : Nat} {y : MethodName} {b : ByteArray} {n : Nat} {r : Option FieldType} (h1 : Cond.methodLink own idx y ∈ BIG) (h2 : Cond.static y ∈ BIG) (h4 : Cond.initialized y.cls ∈ BIG) (h5 : Cond.code y b n r ∈ BIG) : GoodIn BIG (va_wsS own idx y (WS y b n r)) := by
  refine big_in (fun w hw => ?_)
  rcases List.mem_append.mp hw with h | h
  · simp only [List.mem_cons, List.not_mem_nil, or_false] at h
    rcases h with rfl | rfl | rfl <;> assumption
  · exact ws_big h5 w h
/-! the facts that no word list carries: nest mates, arrays of arrays, the static row of no ints -/
def NM : List (String × Nat × MethodName) := [(RX11, 18, yX10_init), (RX11, 25, yX9_init), (RX11, 32, yX4_init), (RX11, 39, yX2_init), (RX9, 37, yX11_isCopy), (RX10, 34, yX11_isEdition)]
def NX : List (String × Nat) := [(RX2, 60), (RX3, 9), (RX6, 9), (RX7, 9), (RX9, 40)]
def NF (U : State) : Prop := (∀ q ∈ NM, va_Nw (.methodLinkNest q.1 q.2.1 q.2.2 RX11) U) ∧ (∀ q ∈ NX, va_Nw (.fieldLinkNest q.1 q.2 RX11 "NOTHING" "[I" RX11) U) ∧ va_AO RX7 U ∧ va_Nw (.arrayOver (.array .int)) U
theorem AOA.moved {t : FieldType} {u U : State} (hvm : u.vm.Alike U.vm) (h : va_Nw (.arrayOver (.array t)) u) : va_Nw (.arrayOver (.array t)) U := by
  obtain ⟨comp, c, k, h1, h2, h3, h4, h5⟩ := arrayOverA_spec h
  obtain ⟨k', hk', he⟩ := hvm.2.2 _ _ h3
  have hi : (U.vm.classes.findIdx? fun (x : Class) => match x.kind with | .array component _ => component == comp | _ => false) = some c := by
    have e1 := va_idx_bare U.vm comp
    have e2 := va_idx_bare u.vm comp
    have hb : U.vm.bare = u.vm.bare := by first | exact hvm.bare_eq | exact hvm.bare_eq.symm
    rw [hb] at e1
    exact e1.symm.trans (e2.trans h2)
  have hkind : k'.kind = .array comp (.array t) := by rw [he]; exact h4
  have f1 : U.vm.findClass (FieldType.array t).toString = some comp := by rw [hvm.findClass]; exact h1
  have f2 : U.vm.findClass ("[" ++ (FieldType.array t).toString) = some c := by rw [hvm.findClass]; exact h5
  unfold va_Nw Cond.before Cond.holds
  simp only [Cond.value]
  rw [f1, Option.bind_some]
  refine (congrArg (fun o : Option Nat => (o.bind (fun c => (U.vm.classes[c]?).map fun (k : Class) => match k.kind with | .array _ ty => decide (ty = FieldType.array t) && decide (U.vm.findClass ("[" ++ (FieldType.array t).toString) = some c) | _ => false) == some true)) hi).trans ?_
  simp [hk', hkind, f2]
theorem NF.warm {s U : State} (hW : s.WarmedH U.vm) (h : NF s) : NF U :=
  ⟨fun q hq => va_Nw.warmM hW (h.1 q hq), fun q hq => va_Nw.warmF hW (h.2.1 q hq), h.2.2.1.moved hW.alike, AOA.moved hW.alike h.2.2.2⟩
theorem NF.same {u U : State} (hvm : u.vm = U.vm) (h : NF u) : NF U :=
  ⟨fun q hq => va_Nw.same rfl hvm (h.1 q hq), fun q hq => va_Nw.same rfl hvm (h.2.1 q hq), h.2.2.1.moved (by rw [hvm]; exact Vm.Alike.refl _), AOA.moved (by rw [hvm]; exact Vm.Alike.refl _) h.2.2.2⟩
def FC (D : va_G) (T : List (ClassId × FieldType)) (tN : Nat) (A : Nat → Prop) (U : State) : Prop := va_K D classes T U ∧ NF U ∧ va_Z RX11 "NOTHING" "[I" (.ref tN) A U U.heap ∧ va_T .int tN 0 (fun _ => .int 0) A U U.heap
theorem FC.call {D : va_G} {T : List (ClassId × FieldType)} {tN : Nat} {A A1 : Nat → Prop} {s U : State} {H : Heap} {locs : List Loc} (h : FC D T tN A s) (hS : va_S A s.heap H locs) (hU : U.heap = H) (hW : s.WarmedH U.vm) (hF : ∀ q, A1 q → A q) : FC D T tN A1 U := by
  subst hU
  exact ⟨va_K.moved hW.alike h.1, NF.warm hW h.2.1, ((va_Z.moved hW.alike h.2.2.1).kept (fun a h1 h2 => hS.2.1 a h1 h2)).narrow hF, ((va_T.moved hW.alike h.2.2.2).kept (fun a h1 h2 => hS.2.1 a h1 h2)).narrow hF⟩
theorem FC.blind {D : va_G} {T : List (ClassId × FieldType)} {tN : Nat} {A : Nat → Prop} {U : State} (g : JFrame) (mk : MethodId) (a : Array Value) (h : FC D T tN A U) : FC D T tN A (U.calling g mk a) :=
  ⟨va_K.moved (u := U) (U := U.calling g mk a) (Vm.Alike.refl U.vm) h.1, NF.same (u := U) (U := U.calling g mk a) rfl h.2.1, va_Z.moved (u := U) (U := U.calling g mk a) (Vm.Alike.refl U.vm) h.2.2.1, va_T.moved (u := U) (U := U.calling g mk a) (Vm.Alike.refl U.vm) h.2.2.2⟩
/-! a method's world, its start and its end -/
def Hp (D : va_G) (A : Nat → Prop) (H0 : Heap) (ws : va_W) (H : Heap) (locs : List Loc) : Prop := va_P D classes ws H ∧ va_D A ws ∧ va_S A H0 H locs
def PcW (D : va_G) (T : List (ClassId × FieldType)) (tN : Nat) (As : List Value) (ws : va_W) (sz : Nat) : Array Value → State → Prop := va_Pc As (fun U => U.heap.size = sz ∧ va_P D classes ws U.heap ∧ FC D T tN (va_A ws sz) U ∧ va_D (fun _ => True) ws)
def BW {S : Type} (D : va_G) (A : Nat → Prop) (W' : S → va_W) : S → State → Prop := fun u t => va_P D classes (W' u) t.heap ∧ va_D A (W' u)
theorem PcW.blind {D : va_G} {T : List (ClassId × FieldType)} {tN : Nat} {As : List Value} {ws : va_W} {sz : Nat} : FrameBlind (PcW D T tN As ws sz) := by
  intro a U g mk h
  obtain ⟨q0, q1, qP, qK, qD⟩ := h
  exact ⟨q0, q1, qP, qK.blind g mk a, qD⟩
def MI {S : Type} (l : Launch) (D : va_G) (T : List (ClassId × FieldType)) (tN : Nat) (y : MethodName) (b : ByteArray) (n : Nat) (r : Option FieldType) (rm : Room) (As : List Value) (ws : va_W) (post : Int32 → S → Prop) (W' : S → va_W) (mc ms : Nat) : Prop :=
  ∀ sz : Nat, Met l y (WS y b n r) rm (PcW D T tN As ws sz) (va_Qi post (BW D (va_A ws sz) W') (va_A ws sz)) mc ms (va_A ws sz)
def MV {S : Type} (l : Launch) (D : va_G) (T : List (ClassId × FieldType)) (tN : Nat) (y : MethodName) (b : ByteArray) (n : Nat) (rm : Room) (As : List Value) (ws : va_W) (post : S → Prop) (W' : S → va_W) (mc ms : Nat) : Prop :=
  ∀ sz : Nat, Met l y (WS y b n none) rm (PcW D T tN As ws sz) (va_Qv post (BW D (va_A ws sz) W') (va_A ws sz)) mc ms (va_A ws sz)
def MQ9 {S : Type} (l : Launch) (D : va_G) (T : List (ClassId × FieldType)) (tN : Nat) (y : MethodName) (b : ByteArray) (n : Nat) (r : Option FieldType) (rm : Room) (As : List Value) (ws : va_W) (post : Option Nat → S → Prop) (W' : S → va_W) (mc ms : Nat) : Prop :=
  ∀ sz : Nat, Met l y (WS y b n r) rm (PcW D T tN As ws sz) (va_Qq post (BW D (va_A ws sz) W') (va_A ws sz)) mc ms (va_A ws sz)
/-- what stands through a whole walk -/
def Ev (p : Program) (s : State) (m : MethodId) (args : Array Value) (c : Code) (own : String) (nL : Nat) (cc : ByteArray) (D : va_G) (T : List (ClassId × FieldType)) (tN : Nat) (A : Nat → Prop) : Prop :=
  CallFix p m c cc nL s args BIG own ∧ FC D T tN A s ∧ ∀ q, s.heap.size ≤ q → A q
theorem Met.ofE {l : Launch} {D : va_G} {T : List (ClassId × FieldType)} {tN : Nat} {y : MethodName} {b : ByteArray} {n : Nat} {r : Option FieldType} {rm : Room} {As : List Value} {ws : va_W} {sz mc ms : Nat} {Qc : (Nat → Prop) → Array Value → State → Outcome → State → Prop} (hy : plainName y.cls = true) (hn : (lg_sl As).length ≤ n)
    (body : ∀ (p : Program) (e : Env) (s : State) (m : MethodId) (args : Array Value) (below : List Frame) (meth : Method) (c : Code) (A : Nat → Prop) (ls : Array Slot), s.heap.size = sz → Ev p s m args c y.cls n b D T tN A → meth.sig.returnType = r → meth.locks = false → (y.name = meth.name) → Hp D A s.heap ws s.heap [] → lv_has ls n (lv_args 0 As) → W p l e rm s m args below meth c s.heap [] 0 0 (MQ below (Qc A) args s mc ms A) (F0 m 0 ls [])) :
    Met l y (WS y b n r) rm (PcW D T tN As ws sz) (Qc (va_A ws sz)) mc ms (va_A ws sz) := by
  refine Met.ofW (cc := b) (maxL := n) (ret := r) (ws' := BIG) hy rfl ?_
  intro p e s m args below meth c s₁ B hml hv
  obtain ⟨hargs, hsz, hP, hK, hD0⟩ := hv
  have hts := atoms_spec (ws := WS y b n r) B.pre
  have hown : s.vm.findClass y.cls = some m.cls := findClass_of_methodNamed B.named
  have hl := lv_entry As (n := n) hn
  have hnm : y.name = meth.name := ((name_of_methodNamed B.named B.method).1).symm
  rw [show entryFrame m args n = entryFrame m As.toArray n by rw [hargs], lg_entry_eq]
  refine body p e s m args below meth c (va_A ws sz) _ hsz ⟨⟨B.exec, B.bytes, hml, hown, fun w hw => hts w (List.mem_cons_of_mem _ hw)⟩, hK, fun q h => Or.inr (by rw [← hsz]; exact h)⟩ B.returns B.notSynchronized hnm ⟨hP, hD0.self, va_S.rf⟩ hl
section CALLS
variable {p : Program} {l : Launch} {e : Env} {R : Room} {s : State} {m : MethodId} {args : Array Value} {below : List Frame} {meth : Method} {c : Code} {H : Heap} {locs : List Loc} {cells slots : Nat} {Q : State → Prop}
variable {cc : ByteArray} {pc : Nat} {ls : Array Slot} {rest st As : List Value} {D : va_G} {T : List (ClassId × FieldType)} {A : Nat → Prop} {wc : va_W} {own C : String} {nL tN : Nat} {S : Type} {y : MethodName} {b : ByteArray} {n k kn idx mc ms a : Nat} {r : Option FieldType} {rm : Room} {W' : S → va_W} {TT : u_T} {NN : Nat} {lv : List (Nat × Value)}
theorem Hp.free (B : Hp D A s.heap wc H locs) (hA : ∀ q, s.heap.size ≤ q → A q) : ∀ q, va_A wc H.size q → A q := by
  intro q h
  rcases h with ⟨k, e, h⟩ | h
  · exact B.2.1.2 k (q, e) h
  · exact hA q (Nat.le_trans B.2.2.1 h)
theorem preV (E : Ev p s m args c own nL cc D T tN A) (B : Hp D A s.heap wc H locs) (q0 : Nat) {ci : Nat} {fs : List Value} (he : wc[q0]? = some (a, .inr (ci, fs))) (hc : classes[ci]? = some (C, TT, NN)) : PreV s H C a (PcW D T tN (.ref a :: As) wc H.size) As :=
  ⟨PcW.blind, va_recv E.2.1.1 B.1 hc he, fun U hU hW => ⟨rfl, by rw [hU], by rw [hU]; exact B.1, E.2.1.call B.2.2 hU hW (B.free E.2.2), B.2.1.weaken (fun _ _ _ _ => trivial)⟩⟩
theorem preS (E : Ev p s m args c own nL cc D T tN A) (B : Hp D A s.heap wc H locs) : PreS s H (PcW D T tN As wc H.size) As :=
  ⟨PcW.blind, fun U hU hW => ⟨rfl, by rw [hU], by rw [hU]; exact B.1, E.2.1.call B.2.2 hU hW (B.free E.2.2), B.2.1.weaken (fun _ _ _ _ => trivial)⟩⟩
theorem call_VI {post : Int32 → S → Prop} (E : Ev p s m args c own nL cc D T tN A) (B : Hp D A s.heap wc H locs) (M : MI l D T tN y b n r rm (.ref a :: As) wc post W' mc ms) (G : GoodIn BIG (wsV own idx C y (WS y b n r))) (q0 : Nat) {ci : Nat} {fs : List Value} (he : wc[q0]? = some (a, .inr (ci, fs))) (hc : classes[ci]? = some (C, TT, NN))
    (hd : y.cls = C ∧ y.cls ≠ "java/lang/invoke/MethodHandle" ∧ y.cls ≠ "java/lang/invoke/VarHandle" ∧ (parseMethodDescriptor y.desc).map (fun d => d.parameters.length) = some kn) (hkn : As.length = kn) (hrc : rm.cells = mc) (hrs : rm.slots = ms) (hR : rm.frames + 1 ≤ R.frames ∧ 8 + (n + 11) + rm.locals ≤ R.locals) (hst : st = As.reverse ++ .ref a :: rest) (hls : lv_has ls nL lv) (hroom : (rest.map fun v => v.category).sum ≤ 8) (hdg : decode cc pc = .ok (.invokevirtual idx, 3)) (hf : cells + mc ≤ R.cells ∧ slots + ms ≤ R.slots)
    (kk : ∀ (v : Int32) (u : S) (H1 : Heap) (locs1 : List Loc), post v u → Hp D A s.heap (W' u) H1 locs1 → W p l e R s m args below meth c H1 locs1 (cells + mc) (slots + ms) Q (F0 m (pc + 3) ls (.int v :: rest))) : W p l e R s m args below meth c H locs cells slots Q (F0 m pc ls st) := by
  subst hkn
  have hF := B.free E.2.2
  refine va_calli (va_runV (As := As) (rest := rest) E.1 (M H.size) (cwV As.length E.1.2.2.2.2 G rfl hrc hrs hd hR) (preV E B q0 he hc) rfl rfl hls.1 hst (lv_room hroom) hdg hf) B.2.2 (fun q _ h => hF q h) hF ?_
  intro v u t H1 locs1 ht hvm hw hB hz1 hk1 hS
  exact kk v u H1 locs1 hw ⟨by rw [← ht]; exact hB.1, hB.2.weaken (fun _ q _ h => hF q.1 h), hS⟩
theorem call_VV {post : S → Prop} (E : Ev p s m args c own nL cc D T tN A) (B : Hp D A s.heap wc H locs) (M : MV l D T tN y b n rm (.ref a :: As) wc post W' mc ms) (G : GoodIn BIG (wsV own idx C y (WS y b n none))) (q0 : Nat) {ci : Nat} {fs : List Value} (he : wc[q0]? = some (a, .inr (ci, fs))) (hc : classes[ci]? = some (C, TT, NN))
    (hd : y.cls = C ∧ y.cls ≠ "java/lang/invoke/MethodHandle" ∧ y.cls ≠ "java/lang/invoke/VarHandle" ∧ (parseMethodDescriptor y.desc).map (fun d => d.parameters.length) = some kn) (hkn : As.length = kn) (hrc : rm.cells = mc) (hrs : rm.slots = ms) (hR : rm.frames + 1 ≤ R.frames ∧ 8 + (n + 11) + rm.locals ≤ R.locals) (hst : st = As.reverse ++ .ref a :: rest) (hls : lv_has ls nL lv) (hroom : (rest.map fun v => v.category).sum ≤ 8) (hdg : decode cc pc = .ok (.invokevirtual idx, 3)) (hf : cells + mc ≤ R.cells ∧ slots + ms ≤ R.slots)
    (kk : ∀ (u : S) (H1 : Heap) (locs1 : List Loc), post u → Hp D A s.heap (W' u) H1 locs1 → W p l e R s m args below meth c H1 locs1 (cells + mc) (slots + ms) Q (F0 m (pc + 3) ls rest)) : W p l e R s m args below meth c H locs cells slots Q (F0 m pc ls st) := by
  subst hkn
  have hF := B.free E.2.2
  refine va_callv (va_runV (As := As) (rest := rest) E.1 (M H.size) (cwV As.length E.1.2.2.2.2 G rfl hrc hrs hd hR) (preV E B q0 he hc) rfl rfl hls.1 hst (lv_room hroom) hdg hf) B.2.2 (fun q _ h => hF q h) hF ?_
  intro u t H1 locs1 ht hvm hw hB hz1 hk1 hS
  exact kk u H1 locs1 hw ⟨by rw [← ht]; exact hB.1, hB.2.weaken (fun _ q _ h => hF q.1 h), hS⟩
theorem call_VQ {post : Option Nat → S → Prop} (E : Ev p s m args c own nL cc D T tN A) (B : Hp D A s.heap wc H locs) (M : MQ9 l D T tN y b n r rm (.ref a :: As) wc post W' mc ms) (G : GoodIn BIG (wsV own idx C y (WS y b n r))) (q0 : Nat) {ci : Nat} {fs : List Value} (he : wc[q0]? = some (a, .inr (ci, fs))) (hc : classes[ci]? = some (C, TT, NN))
    (hd : y.cls = C ∧ y.cls ≠ "java/lang/invoke/MethodHandle" ∧ y.cls ≠ "java/lang/invoke/VarHandle" ∧ (parseMethodDescriptor y.desc).map (fun d => d.parameters.length) = some kn) (hkn : As.length = kn) (hrc : rm.cells = mc) (hrs : rm.slots = ms) (hR : rm.frames + 1 ≤ R.frames ∧ 8 + (n + 11) + rm.locals ≤ R.locals) (hst : st = As.reverse ++ .ref a :: rest) (hls : lv_has ls nL lv) (hroom : (rest.map fun v => v.category).sum ≤ 8) (hdg : decode cc pc = .ok (.invokevirtual idx, 3)) (hf : cells + mc ≤ R.cells ∧ slots + ms ≤ R.slots)
    (kk : ∀ (v : Option Nat) (u : S) (H1 : Heap) (locs1 : List Loc), post v u → Hp D A s.heap (W' u) H1 locs1 → W p l e R s m args below meth c H1 locs1 (cells + mc) (slots + ms) Q (F0 m (pc + 3) ls (va_rf v :: rest))) : W p l e R s m args below meth c H locs cells slots Q (F0 m pc ls st) := by
  subst hkn
  have hF := B.free E.2.2
  refine va_callq (va_runV (As := As) (rest := rest) E.1 (M H.size) (cwV As.length E.1.2.2.2.2 G rfl hrc hrs hd hR) (preV E B q0 he hc) rfl rfl hls.1 hst (lv_room hroom) hdg hf) B.2.2 (fun q _ h => hF q h) hF ?_
  intro v u t H1 locs1 ht hvm hw hB hz1 hk1 hS
  exact kk v u H1 locs1 hw ⟨by rw [← ht]; exact hB.1, hB.2.weaken (fun _ q _ h => hF q.1 h), hS⟩
theorem call_SI {post : Int32 → S → Prop} (E : Ev p s m args c own nL cc D T tN A) (B : Hp D A s.heap wc H locs) (M : MI l D T tN y b n r rm As wc post W' mc ms) (G : GoodIn BIG (va_wsS own idx y (WS y b n r)))
    (hd : y.cls ≠ "java/lang/invoke/MethodHandle" ∧ y.cls ≠ "java/lang/invoke/VarHandle" ∧ (parseMethodDescriptor y.desc).map (fun d => d.parameters.length) = some kn) (hkn : As.length = kn) (hrc : rm.cells = mc) (hrs : rm.slots = ms) (hR : rm.frames + 1 ≤ R.frames ∧ 8 + (n + 11) + rm.locals ≤ R.locals) (hst : st = As.reverse ++ rest) (hls : lv_has ls nL lv) (hroom : (rest.map fun v => v.category).sum ≤ 8) (hdg : decode cc pc = .ok (.invokestatic idx, 3)) (hf : cells + mc ≤ R.cells ∧ slots + ms ≤ R.slots)
    (kk : ∀ (v : Int32) (u : S) (H1 : Heap) (locs1 : List Loc), post v u → Hp D A s.heap (W' u) H1 locs1 → W p l e R s m args below meth c H1 locs1 (cells + mc) (slots + ms) Q (F0 m (pc + 3) ls (.int v :: rest))) : W p l e R s m args below meth c H locs cells slots Q (F0 m pc ls st) := by
  subst hkn
  have hF := B.free E.2.2
  refine va_calli (va_runS (As := As) (rest := rest) E.1 (M H.size) (va_cwS As.length E.1.2.2.2.2 G rfl hrc hrs hd hR) (preS E B) rfl rfl hls.1 hst (lv_room hroom) hdg hf) B.2.2 (fun q _ h => hF q h) hF ?_
  intro v u t H1 locs1 ht hvm hw hB hz1 hk1 hS
  exact kk v u H1 locs1 hw ⟨by rw [← ht]; exact hB.1, hB.2.weaken (fun _ q _ h => hF q.1 h), hS⟩
/-- a constructor of a class that is no nest mate's private one -/
theorem call_IV {post : S → Prop} (E : Ev p s m args c own nL cc D T tN A) (B : Hp D A s.heap wc H locs) (M : MV l D T tN y b n rm (.ref a :: As) wc post W' mc ms) (G : GoodIn BIG (WS y b n none)) (h4 : Cond.initialized y.cls ∈ BIG) (h1 : Cond.methodLink own idx y ∈ BIG) (h2 : Cond.instanceMethod y ∈ BIG) (hi : y.name = "<init>")
    (hd : y.cls ≠ "java/lang/invoke/MethodHandle" ∧ y.cls ≠ "java/lang/invoke/VarHandle" ∧ (parseMethodDescriptor y.desc).map (fun d => d.parameters.length) = some kn) (hkn : As.length = kn) (hrc : rm.cells = mc) (hrs : rm.slots = ms) (hR : rm.frames + 1 ≤ R.frames ∧ 8 + (n + 11) + rm.locals ≤ R.locals) (hst : st = As.reverse ++ .ref a :: rest) (hls : lv_has ls nL lv) (hroom : (rest.map fun v => v.category).sum ≤ 8) (hdg : decode cc pc = .ok (.invokespecial idx, 3)) (hf : cells + mc ≤ R.cells ∧ slots + ms ≤ R.slots)
    (kk : ∀ (u : S) (H1 : Heap) (locs1 : List Loc), post u → Hp D A s.heap (W' u) H1 locs1 → W p l e R s m args below meth c H1 locs1 (cells + mc) (slots + ms) Q (F0 m (pc + 3) ls rest)) : W p l e R s m args below meth c H locs cells slots Q (F0 m pc ls st) := by
  subst hkn
  have hF := B.free E.2.2
  have hts := E.1.2.2.2.2
  refine va_callv (va_runI (As := As) (rest := rest) E.1 (M H.size) (cwI As.length hts G rfl hrc hrs (hts _ h4) (hts _ h1) (hts _ h2) hi hd hR) (preS (As := .ref a :: As) E B) rfl rfl hls.1 hst (lv_room hroom) hdg hf) B.2.2 (fun q _ h => hF q h) hF ?_
  intro u t H1 locs1 ht hvm hw hB hz1 hk1 hS
  exact kk u H1 locs1 hw ⟨by rw [← ht]; exact hB.1, hB.2.weaken (fun _ q _ h => hF q.1 h), hS⟩
/-- a nest mate's private constructor -/
theorem call_IVN {post : S → Prop} (E : Ev p s m args c own nL cc D T tN A) (B : Hp D A s.heap wc H locs) (M : MV l D T tN y b n rm (.ref a :: As) wc post W' mc ms) (G : GoodIn BIG (WS y b n none)) (h4 : Cond.initialized y.cls ∈ BIG) (h1 : (own, idx, y) ∈ NM) (h2 : Cond.instanceMethod y ∈ BIG) (hi : y.name = "<init>")
    (hd : y.cls ≠ "java/lang/invoke/MethodHandle" ∧ y.cls ≠ "java/lang/invoke/VarHandle" ∧ (parseMethodDescriptor y.desc).map (fun d => d.parameters.length) = some kn) (hkn : As.length = kn) (hrc : rm.cells = mc) (hrs : rm.slots = ms) (hR : rm.frames + 1 ≤ R.frames ∧ 8 + (n + 11) + rm.locals ≤ R.locals) (hst : st = As.reverse ++ .ref a :: rest) (hls : lv_has ls nL lv) (hroom : (rest.map fun v => v.category).sum ≤ 8) (hdg : decode cc pc = .ok (.invokespecial idx, 3)) (hf : cells + mc ≤ R.cells ∧ slots + ms ≤ R.slots)
    (kk : ∀ (u : S) (H1 : Heap) (locs1 : List Loc), post u → Hp D A s.heap (W' u) H1 locs1 → W p l e R s m args below meth c H1 locs1 (cells + mc) (slots + ms) Q (F0 m (pc + 3) ls rest)) : W p l e R s m args below meth c H locs cells slots Q (F0 m pc ls st) := by
  subst hkn
  have hF := B.free E.2.2
  have hts := E.1.2.2.2.2
  refine va_callv (va_runIN (As := As) (rest := rest) (host := RX11) E.1 (M H.size) ⟨va_cnB As.length hts G rfl hrc hrs (E.2.1.2.1.1 (own, idx, y) h1) (hts _ h4) hd hR, hi, hts _ h2⟩ (preS (As := .ref a :: As) E B) rfl rfl hls.1 hst (lv_room hroom) hdg hf) B.2.2 (fun q _ h => hF q h) hF ?_
  intro u t H1 locs1 ht hvm hw hB hz1 hk1 hS
  exact kk u H1 locs1 hw ⟨by rw [← ht]; exact hB.1, hB.2.weaken (fun _ q _ h => hF q.1 h), hS⟩
/-! the ends -/
theorem ret_I {post : Int32 → S → Prop} {v : Int32} {ty : FieldType} (E : Ev p s m args c own nL cc D T tN A) (hr : meth.sig.returnType = some ty) (hlocks : meth.locks = false) (hn : narrow ty (.int v) = .int v) {u : S} (B : Hp D A s.heap (W' u) H locs) (hp : post v u) (hdg : decode cc pc = .ok (.ireturn, 1)) : W p l e R s m args below meth c H locs cells slots (MQ below (va_Qi post (BW D A W') A) args s cells slots A) (F0 m pc ls [.int v]) :=
  W.zret E.1.1 E.1.2.1 hr hn (fun t ht hW => ⟨⟨v, u, rfl, hp, by rw [ht]; exact B.1, B.2.1⟩, B.2.2.F ht⟩) B.2.2.2.2 hdg (hlocks := hlocks)
theorem ret_V {post : S → Prop} (E : Ev p s m args c own nL cc D T tN A) (hr : meth.sig.returnType = none) (hlocks : meth.locks = false) {u : S} (B : Hp D A s.heap (W' u) H locs) (hp : post u) (hdg : decode cc pc = .ok (.return_, 1)) : W p l e R s m args below meth c H locs cells slots (MQ below (va_Qv post (BW D A W') A) args s cells slots A) (F0 m pc ls []) :=
  W.vret E.1.1 E.1.2.1 hr (fun t ht hW => ⟨⟨u, rfl, hp, by rw [ht]; exact B.1, B.2.1⟩, B.2.2.F ht⟩) B.2.2.2.2 hdg (hlocks := hlocks)
end CALLS
