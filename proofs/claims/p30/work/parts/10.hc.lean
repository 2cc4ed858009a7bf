/-! contracts over predicates of the heap -/
def PcH (D : va_G) (T : List (ClassId × FieldType)) (tN : Nat) (A : Nat → Prop) (As : List Value) (B : Heap → Prop) : Array Value → State → Prop := va_Pc As (fun U => (∀ q, U.heap.size ≤ q → A q) ∧ FC D T tN A U ∧ B U.heap)
theorem PcH.blind {D : va_G} {T : List (ClassId × FieldType)} {tN : Nat} {A : Nat → Prop} {As : List Value} {B : Heap → Prop} : FrameBlind (PcH D T tN A As B) := by
  intro a U g mk h
  obtain ⟨q0, q1, q2, q3⟩ := h
  exact ⟨q0, q1, q2.blind g mk a, q3⟩
def MIH (l : Launch) (D : va_G) (T : List (ClassId × FieldType)) (tN : Nat) (A : Nat → Prop) (y : MethodName) (b : ByteArray) (n : Nat) (r : Option FieldType) (rm : Room) (As : List Value) (B : Heap → Prop) (Qh : Int32 → Heap → Prop) (mc ms : Nat) : Prop :=
  Met l y (WS y b n r) rm (PcH D T tN A As B) (va_Qi (fun (v u : Int32) => u = v) (fun u t => Qh u t.heap) A) mc ms A
def MVH (l : Launch) (D : va_G) (T : List (ClassId × FieldType)) (tN : Nat) (A : Nat → Prop) (y : MethodName) (b : ByteArray) (n : Nat) (rm : Room) (As : List Value) (B : Heap → Prop) (Qh : Heap → Prop) (mc ms : Nat) : Prop :=
  Met l y (WS y b n none) rm (PcH D T tN A As B) (va_Qv (fun (_ : Unit) => True) (fun _ t => Qh t.heap) A) mc ms A
def MQH (l : Launch) (D : va_G) (T : List (ClassId × FieldType)) (tN : Nat) (A : Nat → Prop) (y : MethodName) (b : ByteArray) (n : Nat) (r : Option FieldType) (rm : Room) (As : List Value) (B : Heap → Prop) (Qh : Option Nat → Heap → Prop) (mc ms : Nat) : Prop :=
  Met l y (WS y b n r) rm (PcH D T tN A As B) (va_Qq (fun (v u : Option Nat) => u = v) (fun u t => Qh u t.heap) A) mc ms A
theorem Met.ofHI {l : Launch} {D : va_G} {T : List (ClassId × FieldType)} {tN : Nat} {A : Nat → Prop} {y : MethodName} {b : ByteArray} {n : Nat} {ty : FieldType} {rm : Room} {As : List Value} {B : Heap → Prop} {Qh : Int32 → Heap → Prop} {mc ms : Nat} (hy : plainName y.cls = true) (hn : (lg_sl As).length ≤ n)
    (body : ∀ (p : Program) (e : Env) (s : State) (m : MethodId) (args : Array Value) (below : List Frame) (meth : Method) (c : Code) (ls : Array Slot) (Q : State → Prop), Ev p s m args c y.cls n b D T tN A → va_S A s.heap s.heap [] → B s.heap → lv_has ls n (lv_args 0 As) → (∀ (v : Int32) (H1 : Heap) (locs1 : List Loc) (pc : Nat) (ls1 : Array Slot), Qh v H1 → narrow ty (.int v) = .int v → va_S A s.heap H1 locs1 → decode b pc = .ok (.ireturn, 1) → W p l e rm s m args below meth c H1 locs1 mc ms Q (F0 m pc ls1 [.int v])) → W p l e rm s m args below meth c s.heap [] 0 0 Q (F0 m 0 ls [])) :
    MIH l D T tN A y b n (some ty) rm As B Qh mc ms := by
  refine Met.ofW (cc := b) (maxL := n) (ret := some ty) (ws' := BIG) hy rfl ?_
  intro p e s m args below meth c s₁ B0 hml hv
  obtain ⟨hargs, hz, hK, hB⟩ := hv
  have hts := atoms_spec (ws := WS y b n (some ty)) B0.pre
  have hown : s.vm.findClass y.cls = some m.cls := findClass_of_methodNamed B0.named
  have hl := lv_entry As (n := n) hn
  have hr := B0.returns
  have hlk := B0.notSynchronized
  rw [show entryFrame m args n = entryFrame m As.toArray n by rw [hargs], lg_entry_eq]
  exact body p e s m args below meth c _ _ ⟨⟨B0.exec, B0.bytes, hml, hown, fun w hw => hts w (List.mem_cons_of_mem _ hw)⟩, hK, hz⟩ va_S.rf hB hl (fun v H1 locs1 pc ls1 hq hnr hS hdg => W.zret B0.exec B0.bytes hr hnr (fun t ht hW => ⟨⟨v, v, rfl, rfl, by show Qh v t.heap; rw [ht]; exact hq⟩, hS.F ht⟩) hS.2.2 hdg (hlocks := hlk))
theorem Met.ofHV {l : Launch} {D : va_G} {T : List (ClassId × FieldType)} {tN : Nat} {A : Nat → Prop} {y : MethodName} {b : ByteArray} {n : Nat} {rm : Room} {As : List Value} {B : Heap → Prop} {Qh : Heap → Prop} {mc ms : Nat} (hy : plainName y.cls = true) (hn : (lg_sl As).length ≤ n)
    (body : ∀ (p : Program) (e : Env) (s : State) (m : MethodId) (args : Array Value) (below : List Frame) (meth : Method) (c : Code) (ls : Array Slot) (Q : State → Prop), Ev p s m args c y.cls n b D T tN A → va_S A s.heap s.heap [] → B s.heap → lv_has ls n (lv_args 0 As) → y.name = meth.name → (∀ (H1 : Heap) (locs1 : List Loc) (pc : Nat) (ls1 : Array Slot), Qh H1 → va_S A s.heap H1 locs1 → decode b pc = .ok (.return_, 1) → W p l e rm s m args below meth c H1 locs1 mc ms Q (F0 m pc ls1 [])) → W p l e rm s m args below meth c s.heap [] 0 0 Q (F0 m 0 ls [])) :
    MVH l D T tN A y b n rm As B Qh mc ms := by
  refine Met.ofW (cc := b) (maxL := n) (ret := none) (ws' := BIG) hy rfl ?_
  intro p e s m args below meth c s₁ B0 hml hv
  obtain ⟨hargs, hz, hK, hB⟩ := hv
  have hts := atoms_spec (ws := WS y b n none) B0.pre
  have hown : s.vm.findClass y.cls = some m.cls := findClass_of_methodNamed B0.named
  have hl := lv_entry As (n := n) hn
  have hr := B0.returns
  have hlk := B0.notSynchronized
  have hnm : y.name = meth.name := ((name_of_methodNamed B0.named B0.method).1).symm
  rw [show entryFrame m args n = entryFrame m As.toArray n by rw [hargs], lg_entry_eq]
  exact body p e s m args below meth c _ _ ⟨⟨B0.exec, B0.bytes, hml, hown, fun w hw => hts w (List.mem_cons_of_mem _ hw)⟩, hK, hz⟩ va_S.rf hB hl hnm (fun H1 locs1 pc ls1 hq hS hdg => W.vret B0.exec B0.bytes hr (fun t ht hW => ⟨⟨(), rfl, trivial, by show Qh t.heap; rw [ht]; exact hq⟩, hS.F ht⟩) hS.2.2 hdg (hlocks := hlk))
theorem Met.ofHQ {l : Launch} {D : va_G} {T : List (ClassId × FieldType)} {tN : Nat} {A : Nat → Prop} {y : MethodName} {b : ByteArray} {n : Nat} {ty : FieldType} {rm : Room} {As : List Value} {B : Heap → Prop} {Qh : Option Nat → Heap → Prop} {mc ms : Nat} (hy : plainName y.cls = true) (hrt : (∃ n, ty = .object n) ∨ ∃ t, ty = .array t) (hn : (lg_sl As).length ≤ n)
    (body : ∀ (p : Program) (e : Env) (s : State) (m : MethodId) (args : Array Value) (below : List Frame) (meth : Method) (c : Code) (ls : Array Slot) (Q : State → Prop), Ev p s m args c y.cls n b D T tN A → va_S A s.heap s.heap [] → B s.heap → lv_has ls n (lv_args 0 As) → (∀ (v : Option Nat) (H1 : Heap) (locs1 : List Loc) (pc : Nat) (ls1 : Array Slot), Qh v H1 → va_S A s.heap H1 locs1 → decode b pc = .ok (.areturn, 1) → W p l e rm s m args below meth c H1 locs1 mc ms Q (F0 m pc ls1 [va_rf v])) → W p l e rm s m args below meth c s.heap [] 0 0 Q (F0 m 0 ls [])) :
    MQH l D T tN A y b n (some ty) rm As B Qh mc ms := by
  refine Met.ofW (cc := b) (maxL := n) (ret := some ty) (ws' := BIG) hy rfl ?_
  intro p e s m args below meth c s₁ B0 hml hv
  obtain ⟨hargs, hz, hK, hB⟩ := hv
  have hts := atoms_spec (ws := WS y b n (some ty)) B0.pre
  have hown : s.vm.findClass y.cls = some m.cls := findClass_of_methodNamed B0.named
  have hl := lv_entry As (n := n) hn
  have hr := B0.returns
  have hlk := B0.notSynchronized
  rw [show entryFrame m args n = entryFrame m As.toArray n by rw [hargs], lg_entry_eq]
  exact body p e s m args below meth c _ _ ⟨⟨B0.exec, B0.bytes, hml, hown, fun w hw => hts w (List.mem_cons_of_mem _ hw)⟩, hK, hz⟩ va_S.rf hB hl (fun v H1 locs1 pc ls1 hq hS hdg => W.aret B0.exec B0.bytes hr hrt (va_rf_or v) (fun t ht hW => ⟨⟨v, v, rfl, rfl, by show Qh v t.heap; rw [ht]; exact hq⟩, hS.F ht⟩) hS.2.2 hdg (hlocks := hlk))
section HCALLS
variable {p : Program} {l : Launch} {e : Env} {R : Room} {s : State} {m : MethodId} {args : Array Value} {below : List Frame} {meth : Method} {c : Code} {H : Heap} {locs : List Loc} {cells slots : Nat} {Q : State → Prop}
variable {cc : ByteArray} {pc : Nat} {ls : Array Slot} {rest st As : List Value} {D : va_G} {T : List (ClassId × FieldType)} {A : Nat → Prop} {own C : String} {nL tN : Nat} {y : MethodName} {b : ByteArray} {n kn idx mc ms a : Nat} {r : Option FieldType} {rm : Room} {TT : u_T} {NN : Nat} {lv : List (Nat × Value)} {Bh : Heap → Prop}
theorem hpreV (E : Ev p s m args c own nL cc D T tN A) (hS : va_S A s.heap H locs) (hB : Bh H) {ci : Nat} {fs : List Value} (hrec : va_P D classes [(a, .inr (ci, fs))] H) (hc : classes[ci]? = some (C, TT, NN)) : PreV s H C a (PcH D T tN A (.ref a :: As) Bh) As :=
  ⟨PcH.blind, va_recv E.2.1.1 hrec hc (q0 := 0) rfl, fun U hU hW => ⟨rfl, by rw [hU]; exact fun q h => E.2.2 q (Nat.le_trans hS.1 h), E.2.1.call hS hU hW (fun _ h => h), by rw [hU]; exact hB⟩⟩
theorem hpreS (E : Ev p s m args c own nL cc D T tN A) (hS : va_S A s.heap H locs) (hB : Bh H) : PreS s H (PcH D T tN A As Bh) As :=
  ⟨PcH.blind, fun U hU hW => ⟨rfl, by rw [hU]; exact fun q h => E.2.2 q (Nat.le_trans hS.1 h), E.2.1.call hS hU hW (fun _ h => h), by rw [hU]; exact hB⟩⟩
theorem hc_VI {Qh : Int32 → Heap → Prop} (E : Ev p s m args c own nL cc D T tN A) (hS : va_S A s.heap H locs) (hB : Bh H) (M : MIH l D T tN A y b n r rm (.ref a :: As) Bh Qh mc ms) (G : GoodIn BIG (wsV own idx C y (WS y b n r))) {ci : Nat} {fs : List Value} (hrec : va_P D classes [(a, .inr (ci, fs))] H) (hc : classes[ci]? = some (C, TT, NN))
    (hd : y.cls = C ∧ y.cls ≠ "java/lang/invoke/MethodHandle" ∧ y.cls ≠ "java/lang/invoke/VarHandle" ∧ (parseMethodDescriptor y.desc).map (fun d => d.parameters.length) = some kn) (hkn : As.length = kn) (hrc : rm.cells = mc) (hrs : rm.slots = ms) (hR : rm.frames + 1 ≤ R.frames ∧ 8 + (n + 11) + rm.locals ≤ R.locals) (hst : st = As.reverse ++ .ref a :: rest) (hls : lv_has ls nL lv) (hroom : (rest.map fun v => v.category).sum ≤ 8) (hdg : decode cc pc = .ok (.invokevirtual idx, 3)) (hf : cells + mc ≤ R.cells ∧ slots + ms ≤ R.slots)
    (kk : ∀ (v : Int32) (H1 : Heap) (locs1 : List Loc), Qh v H1 → va_S A s.heap H1 locs1 → W p l e R s m args below meth c H1 locs1 (cells + mc) (slots + ms) Q (F0 m (pc + 3) ls (.int v :: rest))) : W p l e R s m args below meth c H locs cells slots Q (F0 m pc ls st) := by
  subst hkn
  refine va_calli (va_runV (As := As) (rest := rest) E.1 M (cwV As.length E.1.2.2.2.2 G rfl hrc hrs hd hR) (hpreV E hS hB hrec hc) rfl rfl hls.1 hst (lv_room hroom) hdg hf) hS (fun _ _ h => h) (fun _ h => h) ?_
  intro v u t H1 locs1 ht hvm hw hq hz1 hk1 hS1
  subst hw
  exact kk _ H1 locs1 (by rw [← ht]; exact hq) hS1
theorem hc_VV {Qh : Heap → Prop} (E : Ev p s m args c own nL cc D T tN A) (hS : va_S A s.heap H locs) (hB : Bh H) (M : MVH l D T tN A y b n rm (.ref a :: As) Bh Qh mc ms) (G : GoodIn BIG (wsV own idx C y (WS y b n none))) {ci : Nat} {fs : List Value} (hrec : va_P D classes [(a, .inr (ci, fs))] H) (hc : classes[ci]? = some (C, TT, NN))
    (hd : y.cls = C ∧ y.cls ≠ "java/lang/invoke/MethodHandle" ∧ y.cls ≠ "java/lang/invoke/VarHandle" ∧ (parseMethodDescriptor y.desc).map (fun d => d.parameters.length) = some kn) (hkn : As.length = kn) (hrc : rm.cells = mc) (hrs : rm.slots = ms) (hR : rm.frames + 1 ≤ R.frames ∧ 8 + (n + 11) + rm.locals ≤ R.locals) (hst : st = As.reverse ++ .ref a :: rest) (hls : lv_has ls nL lv) (hroom : (rest.map fun v => v.category).sum ≤ 8) (hdg : decode cc pc = .ok (.invokevirtual idx, 3)) (hf : cells + mc ≤ R.cells ∧ slots + ms ≤ R.slots)
    (kk : ∀ (H1 : Heap) (locs1 : List Loc), Qh H1 → va_S A s.heap H1 locs1 → W p l e R s m args below meth c H1 locs1 (cells + mc) (slots + ms) Q (F0 m (pc + 3) ls rest)) : W p l e R s m args below meth c H locs cells slots Q (F0 m pc ls st) := by
  subst hkn
  refine va_callv (va_runV (As := As) (rest := rest) E.1 M (cwV As.length E.1.2.2.2.2 G rfl hrc hrs hd hR) (hpreV E hS hB hrec hc) rfl rfl hls.1 hst (lv_room hroom) hdg hf) hS (fun _ _ h => h) (fun _ h => h) ?_
  intro u t H1 locs1 ht hvm hw hq hz1 hk1 hS1
  exact kk H1 locs1 (by rw [← ht]; exact hq) hS1
theorem hc_VQ {Qh : Option Nat → Heap → Prop} (E : Ev p s m args c own nL cc D T tN A) (hS : va_S A s.heap H locs) (hB : Bh H) (M : MQH l D T tN A y b n r rm (.ref a :: As) Bh Qh mc ms) (G : GoodIn BIG (wsV own idx C y (WS y b n r))) {ci : Nat} {fs : List Value} (hrec : va_P D classes [(a, .inr (ci, fs))] H) (hc : classes[ci]? = some (C, TT, NN))
    (hd : y.cls = C ∧ y.cls ≠ "java/lang/invoke/MethodHandle" ∧ y.cls ≠ "java/lang/invoke/VarHandle" ∧ (parseMethodDescriptor y.desc).map (fun d => d.parameters.length) = some kn) (hkn : As.length = kn) (hrc : rm.cells = mc) (hrs : rm.slots = ms) (hR : rm.frames + 1 ≤ R.frames ∧ 8 + (n + 11) + rm.locals ≤ R.locals) (hst : st = As.reverse ++ .ref a :: rest) (hls : lv_has ls nL lv) (hroom : (rest.map fun v => v.category).sum ≤ 8) (hdg : decode cc pc = .ok (.invokevirtual idx, 3)) (hf : cells + mc ≤ R.cells ∧ slots + ms ≤ R.slots)
    (kk : ∀ (v : Option Nat) (H1 : Heap) (locs1 : List Loc), Qh v H1 → va_S A s.heap H1 locs1 → W p l e R s m args below meth c H1 locs1 (cells + mc) (slots + ms) Q (F0 m (pc + 3) ls (va_rf v :: rest))) : W p l e R s m args below meth c H locs cells slots Q (F0 m pc ls st) := by
  subst hkn
  refine va_callq (va_runV (As := As) (rest := rest) E.1 M (cwV As.length E.1.2.2.2.2 G rfl hrc hrs hd hR) (hpreV E hS hB hrec hc) rfl rfl hls.1 hst (lv_room hroom) hdg hf) hS (fun _ _ h => h) (fun _ h => h) ?_
  intro v u t H1 locs1 ht hvm hw hq hz1 hk1 hS1
  subst hw
  exact kk _ H1 locs1 (by rw [← ht]; exact hq) hS1
theorem hc_SI {Qh : Int32 → Heap → Prop} (E : Ev p s m args c own nL cc D T tN A) (hS : va_S A s.heap H locs) (hB : Bh H) (M : MIH l D T tN A y b n r rm As Bh Qh mc ms) (G : GoodIn BIG (va_wsS own idx y (WS y b n r)))
    (hd : y.cls ≠ "java/lang/invoke/MethodHandle" ∧ y.cls ≠ "java/lang/invoke/VarHandle" ∧ (parseMethodDescriptor y.desc).map (fun d => d.parameters.length) = some kn) (hkn : As.length = kn) (hrc : rm.cells = mc) (hrs : rm.slots = ms) (hR : rm.frames + 1 ≤ R.frames ∧ 8 + (n + 11) + rm.locals ≤ R.locals) (hst : st = As.reverse ++ rest) (hls : lv_has ls nL lv) (hroom : (rest.map fun v => v.category).sum ≤ 8) (hdg : decode cc pc = .ok (.invokestatic idx, 3)) (hf : cells + mc ≤ R.cells ∧ slots + ms ≤ R.slots)
    (kk : ∀ (v : Int32) (H1 : Heap) (locs1 : List Loc), Qh v H1 → va_S A s.heap H1 locs1 → W p l e R s m args below meth c H1 locs1 (cells + mc) (slots + ms) Q (F0 m (pc + 3) ls (.int v :: rest))) : W p l e R s m args below meth c H locs cells slots Q (F0 m pc ls st) := by
  subst hkn
  refine va_calli (va_runS (As := As) (rest := rest) E.1 M (va_cwS As.length E.1.2.2.2.2 G rfl hrc hrs hd hR) (hpreS E hS hB) rfl rfl hls.1 hst (lv_room hroom) hdg hf) hS (fun _ _ h => h) (fun _ h => h) ?_
  intro v u t H1 locs1 ht hvm hw hq hz1 hk1 hS1
  subst hw
  exact kk _ H1 locs1 (by rw [← ht]; exact hq) hS1
theorem hc_SN {Qh : Int32 → Heap → Prop} (E : Ev p s m args c own nL cc D T tN A) (hS : va_S A s.heap H locs) (hB : Bh H) (M : MIH l D T tN A y b n r rm As Bh Qh mc ms) (G : GoodIn BIG (WS y b n r)) (h4 : Cond.initialized y.cls ∈ BIG) (h1 : (own, idx, y) ∈ NM) (h2 : Cond.static y ∈ BIG)
    (hd : y.cls ≠ "java/lang/invoke/MethodHandle" ∧ y.cls ≠ "java/lang/invoke/VarHandle" ∧ (parseMethodDescriptor y.desc).map (fun d => d.parameters.length) = some kn) (hkn : As.length = kn) (hrc : rm.cells = mc) (hrs : rm.slots = ms) (hR : rm.frames + 1 ≤ R.frames ∧ 8 + (n + 11) + rm.locals ≤ R.locals) (hst : st = As.reverse ++ rest) (hls : lv_has ls nL lv) (hroom : (rest.map fun v => v.category).sum ≤ 8) (hdg : decode cc pc = .ok (.invokestatic idx, 3)) (hf : cells + mc ≤ R.cells ∧ slots + ms ≤ R.slots)
    (kk : ∀ (v : Int32) (H1 : Heap) (locs1 : List Loc), Qh v H1 → va_S A s.heap H1 locs1 → W p l e R s m args below meth c H1 locs1 (cells + mc) (slots + ms) Q (F0 m (pc + 3) ls (.int v :: rest))) : W p l e R s m args below meth c H locs cells slots Q (F0 m pc ls st) := by
  subst hkn
  have hts := E.1.2.2.2.2
  refine va_calli (va_runSN (As := As) (rest := rest) (host := RX11) E.1 M ⟨va_cnB As.length hts G rfl hrc hrs (E.2.1.2.1.1 (own, idx, y) h1) (hts _ h4) hd hR, hts _ h2, trivial⟩ (hpreS E hS hB) rfl rfl hls.1 hst (lv_room hroom) hdg hf) hS (fun _ _ h => h) (fun _ h => h) ?_
  intro v u t H1 locs1 ht hvm hw hq hz1 hk1 hS1
  subst hw
  exact kk _ H1 locs1 (by rw [← ht]; exact hq) hS1
theorem hc_IV {Qh : Heap → Prop} (E : Ev p s m args c own nL cc D T tN A) (hS : va_S A s.heap H locs) (hB : Bh H) (M : MVH l D T tN A y b n rm (.ref a :: As) Bh Qh mc ms) (G : GoodIn BIG (WS y b n none)) (h4 : Cond.initialized y.cls ∈ BIG) (h1 : Cond.methodLink own idx y ∈ BIG) (h2 : Cond.instanceMethod y ∈ BIG) (hi : y.name = "<init>")
    (hd : y.cls ≠ "java/lang/invoke/MethodHandle" ∧ y.cls ≠ "java/lang/invoke/VarHandle" ∧ (parseMethodDescriptor y.desc).map (fun d => d.parameters.length) = some kn) (hkn : As.length = kn) (hrc : rm.cells = mc) (hrs : rm.slots = ms) (hR : rm.frames + 1 ≤ R.frames ∧ 8 + (n + 11) + rm.locals ≤ R.locals) (hst : st = As.reverse ++ .ref a :: rest) (hls : lv_has ls nL lv) (hroom : (rest.map fun v => v.category).sum ≤ 8) (hdg : decode cc pc = .ok (.invokespecial idx, 3)) (hf : cells + mc ≤ R.cells ∧ slots + ms ≤ R.slots)
    (kk : ∀ (H1 : Heap) (locs1 : List Loc), Qh H1 → va_S A s.heap H1 locs1 → W p l e R s m args below meth c H1 locs1 (cells + mc) (slots + ms) Q (F0 m (pc + 3) ls rest)) : W p l e R s m args below meth c H locs cells slots Q (F0 m pc ls st) := by
  subst hkn
  have hts := E.1.2.2.2.2
  refine va_callv (va_runI (As := As) (rest := rest) E.1 M (cwI As.length hts G rfl hrc hrs (hts _ h4) (hts _ h1) (hts _ h2) hi hd hR) (hpreS (As := .ref a :: As) E hS hB) rfl rfl hls.1 hst (lv_room hroom) hdg hf) hS (fun _ _ h => h) (fun _ h => h) ?_
  intro u t H1 locs1 ht hvm hw hq hz1 hk1 hS1
  exact kk H1 locs1 (by rw [← ht]; exact hq) hS1
theorem hc_VB {Qh : Int32 → Heap → Prop} {bo : Nat} (E : Ev p s m args c own nL cc D T tN A) (hS : va_S A s.heap H locs) (hB : Bh H) (M : MIH l D T tN A y b n r rm (.ref bo :: As) Bh Qh mc ms) (G : GoodIn BIG (wsV own idx C y (WS y b n r))) {ci : Nat} {fs : List Value} (hrec : va_P D classes [(bo, .inr (ci, fs))] H) (hc : classes[ci]? = some (C, TT, NN))
    (hd : y.cls = C ∧ y.cls ≠ "java/lang/invoke/MethodHandle" ∧ y.cls ≠ "java/lang/invoke/VarHandle" ∧ (parseMethodDescriptor y.desc).map (fun d => d.parameters.length) = some kn) (hkn : As.length = kn) (hrc : rm.cells = mc) (hrs : rm.slots = ms) (hR : rm.frames + 1 ≤ R.frames ∧ 8 + (n + 11) + rm.locals ≤ R.locals) (hst : st = As.reverse ++ .ref bo :: rest) (hls : lv_has ls nL lv) (hroom : (rest.map fun v => v.category).sum ≤ 8) (hdg : decode cc pc = .ok (.invokevirtual idx, 3)) (hf : cells + mc ≤ R.cells ∧ slots + ms ≤ R.slots)
    (kk : ∀ (v : Int32) (H1 : Heap) (locs1 : List Loc), Qh v H1 → va_S A s.heap H1 locs1 → W p l e R s m args below meth c H1 locs1 (cells + mc) (slots + ms) Q (F0 m (pc + 3) ls (.int v :: rest))) : W p l e R s m args below meth c H locs cells slots Q (F0 m pc ls st) := hc_VI E hS hB M G hrec hc hd hkn hrc hrs hR hst hls hroom hdg hf kk
end HCALLS
section ATRF
variable {p : Program} {l : Launch} {e : Env} {R : Room} {s : State} {m : MethodId} {args : Array Value} {below : List Frame} {meth : Method} {c : Code} {H : Heap} {locs : List Loc} {cells slots : Nat} {Q : State → Prop} {pc : Nat} {ls : Array Slot} {rest : List Value}
theorem at_rf {q : Nat} (kk : W p l e R s m args below meth c H locs cells slots Q (F0 m pc ls (.ref q :: rest))) : W p l e R s m args below meth c H locs cells slots Q (F0 m pc ls (va_rf (some q) :: rest)) := kk
theorem at_rn (kk : W p l e R s m args below meth c H locs cells slots Q (F0 m pc ls (.null :: rest))) : W p l e R s m args below meth c H locs cells slots Q (F0 m pc ls (va_rf none :: rest)) := kk
end ATRF
