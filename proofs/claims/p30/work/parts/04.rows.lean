/-! rows over a world: fields, arrays, new cells -/
def TY (ct : Nat → ClassId) : List (ClassId × FieldType) := [(ct 0, .int), (ct 1, .byte), (ct 2, .long), (ct 3, .boolean), (ct 4, .array .int), (ct 5, .object RX7)]
theorem at_p (ws l : va_W) (k : Nat) : (ws ++ l)[ws.length + k]? = l[k]? := by
  rw [List.getElem?_append_right (by omega)]
  congr 1
  omega
theorem set_p (ws l : va_W) (k : Nat) (x : Nat × va_E) : (ws ++ l).set (ws.length + k) x = ws ++ l.set k x := by
  rw [List.set_append_right _ _ (by omega)]
  congr 2
  omega
theorem ra_eq {s : State} {c1 c2 : ClassId} {ty : FieldType} (h1 : va_RA s c1 ty) (h2 : va_RA s c2 ty) : c1 = c2 := by
  cases ty with
  | object C =>
    obtain ⟨_, _, _, _, _, e1⟩ := h1
    obtain ⟨_, _, _, _, _, e2⟩ := h2
    exact Option.some.inj (e1.symm.trans e2)
  | _ => exact Option.some.inj (Eq.trans (Eq.symm h1) h2)
theorem toInt_add {x y : Int32} {a b : Int} (hx : x.toInt = a) (hy : y.toInt = b) (h1 : -2147483648 ≤ a + b) (h2 : a + b ≤ 2147483647) : (x + y).toInt = a + b := by
  rw [Int32.toInt_add, hx, hy, Int.bmod_def]
  omega
theorem toInt_sub {x y : Int32} {a b : Int} (hx : x.toInt = a) (hy : y.toInt = b) (h1 : -2147483648 ≤ a - b) (h2 : a - b ≤ 2147483647) : (x - y).toInt = a - b := by
  rw [Int32.toInt_sub, hx, hy, Int.bmod_def]
  omega
theorem toInt_mul {x y : Int32} {a b z : Int} (hx : x.toInt = a) (hy : y.toInt = b) (hz : a * b = z) (h1 : -2147483648 ≤ z) (h2 : z ≤ 2147483647) : (x * y).toInt = z := by
  rw [Int32.toInt_mul, hx, hy, hz, Int.bmod_def]
  omega
theorem vp_of {x : Int32} {a : Int} {n : Nat} (hx : x.toInt = a) (h1 : 0 ≤ a) (h2 : a < n) : vp_in x n := vp_in_iff.mpr ⟨by rw [hx]; exact h1, by rw [hx]; exact h2⟩
theorem clamp_i {x : Int32} {a : Nat} (hx : x.toInt = (a : Int)) : x.toNatClampNeg = a := by
  show x.toInt.toNat = a
  rw [hx]
  exact Int.toNat_natCast a
theorem eq_of_toInt {x y : Int32} (h : x.toInt = y.toInt) : x = y := Int32.toInt_inj.mp h
theorem ne_of_toInt {x y : Int32} (h : ¬ x = y) : ¬ x.toInt = y.toInt := fun e => h (Int32.toInt_inj.mp e)
theorem narrow_z {v : Int32} (h : v.toInt = 0 ∨ v.toInt = 1) : narrow .boolean (.int v) = .int v := by
  rcases h with h | h
  · rw [show v = 0 from eq_of_toInt h]; rfl
  · rw [show v = 1 from eq_of_toInt h]; rfl
section ROWS
variable {p : Program} {l : Launch} {e : Env} {R : Room} {s : State} {m : MethodId} {args : Array Value} {below : List Frame} {meth : Method} {c : Code} {H : Heap} {locs : List Loc} {cells slots : Nat} {Q : State → Prop}
variable {cc : ByteArray} {pc : Nat} {ls : Array Slot} {rest : List Value} {D : va_G} {ct : Nat → ClassId} {A : Nat → Prop} {ws : va_W} {own : String} {nL tN a : Nat} {TT : u_T} {NN ci idx : Nat} {C : String} {fs : List Value}
theorem row_get (E : Ev p s m args c own nL cc D (TY ct) tN A) (B : Hp D A s.heap ws H locs) (hin : ∀ w ∈ u_ws C TT NN, w ∈ BIG) (hc : classes[ci]? = some (C, TT, NN)) (k : Nat) (hk : k < NN) (hm : Cond.fieldLink own idx (TT k).1 (TT k).2.1 (TT k).2.2.1 ∈ BIG) (q0 : Nat) (he : ws[q0]? = some (a, .inr (ci, fs))) {v : Value} (hv : fs[k]? = some v) (hdg : decode cc pc = .ok (.getfield idx, 3))
    (kk : W p l e R s m args below meth c H locs cells slots Q (F0 m (pc + 3) ls (v :: rest))) : W p l e R s m args below meth c H locs cells slots Q (F0 m pc ls (.ref a :: rest)) :=
  va_get E.1.1 E.1.2.1 E.1.2.2.2.2 hin E.1.2.2.2.1 E.2.1.1 B.1 q0 he hc k hk (E.1.2.2.2.2 _ hm) (fun _ h => h) hv hdg kk
theorem row_put (E : Ev p s m args c own nL cc D (TY ct) tN A) (B : Hp D A s.heap ws H locs) (hin : ∀ w ∈ u_ws C TT NN, w ∈ BIG) (hc : classes[ci]? = some (C, TT, NN)) (ty0 : Nat → FieldType) (hty : ∀ k, k < NN → parseFieldDescriptor (TT k).2.2.1 = some (ty0 k)) (hnm : ∀ a, a < NN → ∀ b, b < NN → a ≠ b → (TT a).2.1 ≠ (TT b).2.1) (k : Nat) (hk : k < NN) (hm : Cond.fieldLink own idx (TT k).1 (TT k).2.1 (TT k).2.2.1 ∈ BIG) (hfin : (TT k).2.2.2 = false) (q0 : Nat) (he : ws[q0]? = some (a, .inr (ci, fs))) {v : Value} (hn : narrow (ty0 k) v = v) (hfit : fits (ty0 k) v = true) (hl : k < fs.length) (hdg : decode cc pc = .ok (.putfield idx, 3))
    (kk : ∀ (H1 : Heap) (locs1 : List Loc), Hp D A s.heap (ws.set q0 (a, .inr (ci, fs.set k v))) H1 locs1 → W p l e R s m args below meth c H1 locs1 cells slots Q (F0 m (pc + 3) ls rest)) : W p l e R s m args below meth c H locs cells slots Q (F0 m pc ls (v :: .ref a :: rest)) :=
  va_put E.1.1 E.1.2.1 E.1.2.2.2.2 hin ty0 hty hnm E.1.2.2.2.1 E.2.1.1 B.1 B.2.1 B.2.2 q0 he hc k hk (E.1.2.2.2.2 _ hm) (fun _ h => h) hfin (hty k hk) hn hfit hl hdg (fun H1 locs1 h1 h2 h3 => kk H1 locs1 ⟨h1, h2, h3⟩)
theorem row_putF (E : Ev p s m args c own nL cc D (TY ct) tN A) (B : Hp D A s.heap ws H locs) (hin : ∀ w ∈ u_ws C TT NN, w ∈ BIG) (hc : classes[ci]? = some (C, TT, NN)) (ty0 : Nat → FieldType) (hty : ∀ k, k < NN → parseFieldDescriptor (TT k).2.2.1 = some (ty0 k)) (hnm : ∀ a, a < NN → ∀ b, b < NN → a ≠ b → (TT a).2.1 ≠ (TT b).2.1) (k : Nat) (hk : k < NN) (hm : Cond.fieldLink own idx (TT k).1 (TT k).2.1 (TT k).2.2.1 ∈ BIG) (hfin : (TT k).2.2.2 = true) (hin2 : "<init>" = meth.name) (hdecl : (TT k).1 = own) (q0 : Nat) (he : ws[q0]? = some (a, .inr (ci, fs))) {v : Value} (hn : narrow (ty0 k) v = v) (hfit : fits (ty0 k) v = true) (hl : k < fs.length) (hdg : decode cc pc = .ok (.putfield idx, 3))
    (kk : ∀ (H1 : Heap) (locs1 : List Loc), Hp D A s.heap (ws.set q0 (a, .inr (ci, fs.set k v))) H1 locs1 → W p l e R s m args below meth c H1 locs1 cells slots Q (F0 m (pc + 3) ls rest)) : W p l e R s m args below meth c H locs cells slots Q (F0 m pc ls (v :: .ref a :: rest)) :=
  va_putF E.1.1 E.1.2.1 E.1.2.2.2.2 hin ty0 hty hnm E.1.2.2.2.1 E.2.1.1 B.1 B.2.1 B.2.2 q0 he hc k hk (E.1.2.2.2.2 _ hm) (fun _ h => h) hfin hin2.symm hdecl (hty k hk) hn hfit hl hdg (fun H1 locs1 h1 h2 h3 => kk H1 locs1 ⟨h1, h2, h3⟩)
theorem row_iald (E : Ev p s m args c own nL cc D (TY ct) tN A) (B : Hp D A s.heap ws H locs) (q0 : Nat) {n : Nat} {f : Nat → Int32} (ha : ws[q0]? = some (a, .inl (ct 0, n, .inl f))) {i : Int32} (hin : vp_in i n) (hdg : decode cc pc = .ok (.iaload, 1))
    (kk : W p l e R s m args below meth c H locs cells slots Q (F0 m (pc + 1) ls (.int (f i.toNatClampNeg) :: rest))) : W p l e R s m args below meth c H locs cells slots Q (F0 m pc ls (.int i :: .ref a :: rest)) := va_iald E.1.1 E.1.2.1 E.2.1.1 B.1 q0 0 ha rfl hin hdg kk
theorem row_bald (E : Ev p s m args c own nL cc D (TY ct) tN A) (B : Hp D A s.heap ws H locs) (q0 : Nat) {n : Nat} {f : Nat → Int32} (ha : ws[q0]? = some (a, .inl (ct 1, n, .inl f))) {i : Int32} (hin : vp_in i n) (hdg : decode cc pc = .ok (.baload, 1))
    (kk : W p l e R s m args below meth c H locs cells slots Q (F0 m (pc + 1) ls (.int (f i.toNatClampNeg) :: rest))) : W p l e R s m args below meth c H locs cells slots Q (F0 m pc ls (.int i :: .ref a :: rest)) := va_bald E.1.1 E.1.2.1 E.2.1.1 B.1 q0 1 ha rfl hin hdg kk
theorem row_zald (E : Ev p s m args c own nL cc D (TY ct) tN A) (B : Hp D A s.heap ws H locs) (q0 : Nat) {n : Nat} {f : Nat → Int32} (ha : ws[q0]? = some (a, .inl (ct 3, n, .inl f))) {i : Int32} (hin : vp_in i n) (hdg : decode cc pc = .ok (.baload, 1))
    (kk : W p l e R s m args below meth c H locs cells slots Q (F0 m (pc + 1) ls (.int (f i.toNatClampNeg) :: rest))) : W p l e R s m args below meth c H locs cells slots Q (F0 m pc ls (.int i :: .ref a :: rest)) := va_zald E.1.1 E.1.2.1 E.2.1.1 B.1 q0 3 ha rfl hin hdg kk
theorem row_lald (E : Ev p s m args c own nL cc D (TY ct) tN A) (B : Hp D A s.heap ws H locs) (q0 : Nat) {n : Nat} {f : Nat → Int64} (ha : ws[q0]? = some (a, .inl (ct 2, n, .inr (.inl f)))) {i : Int32} (hin : vp_in i n) (hdg : decode cc pc = .ok (.laload, 1))
    (kk : W p l e R s m args below meth c H locs cells slots Q (F0 m (pc + 1) ls (.long (f i.toNatClampNeg) :: rest))) : W p l e R s m args below meth c H locs cells slots Q (F0 m pc ls (.int i :: .ref a :: rest)) := va_lald E.1.1 E.1.2.1 E.2.1.1 B.1 q0 2 ha rfl hin hdg kk
theorem row_iast (E : Ev p s m args c own nL cc D (TY ct) tN A) (B : Hp D A s.heap ws H locs) (q0 : Nat) {n : Nat} {f : Nat → Int32} (ha : ws[q0]? = some (a, .inl (ct 0, n, .inl f))) {i x : Int32} (hin : vp_in i n) (hdg : decode cc pc = .ok (.iastore, 1))
    (kk : ∀ (H1 : Heap) (locs1 : List Loc), Hp D A s.heap (ws.set q0 (a, .inl (ct 0, n, .inl (upd f i.toNatClampNeg x)))) H1 locs1 → W p l e R s m args below meth c H1 locs1 cells slots Q (F0 m (pc + 1) ls rest)) : W p l e R s m args below meth c H locs cells slots Q (F0 m pc ls (.int x :: .int i :: .ref a :: rest)) := va_iast E.1.1 E.1.2.1 E.2.1.1 B.1 B.2.1 B.2.2 q0 0 ha rfl hin hdg (fun H1 locs1 h1 h2 h3 => kk H1 locs1 ⟨h1, h2, h3⟩)
theorem row_bast (E : Ev p s m args c own nL cc D (TY ct) tN A) (B : Hp D A s.heap ws H locs) (q0 : Nat) {n : Nat} {f : Nat → Int32} (ha : ws[q0]? = some (a, .inl (ct 1, n, .inl f))) {i x : Int32} (hin : vp_in i n) (hdg : decode cc pc = .ok (.bastore, 1))
    (kk : ∀ (H1 : Heap) (locs1 : List Loc), Hp D A s.heap (ws.set q0 (a, .inl (ct 1, n, .inl (upd f i.toNatClampNeg (vp_nar .byte x))))) H1 locs1 → W p l e R s m args below meth c H1 locs1 cells slots Q (F0 m (pc + 1) ls rest)) : W p l e R s m args below meth c H locs cells slots Q (F0 m pc ls (.int x :: .int i :: .ref a :: rest)) := va_bast E.1.1 E.1.2.1 E.2.1.1 B.1 B.2.1 B.2.2 q0 1 ha rfl hin hdg (fun H1 locs1 h1 h2 h3 => kk H1 locs1 ⟨h1, h2, h3⟩)
theorem row_zast (E : Ev p s m args c own nL cc D (TY ct) tN A) (B : Hp D A s.heap ws H locs) (q0 : Nat) {n : Nat} {f : Nat → Int32} (ha : ws[q0]? = some (a, .inl (ct 3, n, .inl f))) {i x : Int32} (hin : vp_in i n) (hdg : decode cc pc = .ok (.bastore, 1))
    (kk : ∀ (H1 : Heap) (locs1 : List Loc), Hp D A s.heap (ws.set q0 (a, .inl (ct 3, n, .inl (upd f i.toNatClampNeg (vp_nar .boolean x))))) H1 locs1 → W p l e R s m args below meth c H1 locs1 cells slots Q (F0 m (pc + 1) ls rest)) : W p l e R s m args below meth c H locs cells slots Q (F0 m pc ls (.int x :: .int i :: .ref a :: rest)) := va_zast E.1.1 E.1.2.1 E.2.1.1 B.1 B.2.1 B.2.2 q0 3 ha rfl hin hdg (fun H1 locs1 h1 h2 h3 => kk H1 locs1 ⟨h1, h2, h3⟩)
theorem row_last (E : Ev p s m args c own nL cc D (TY ct) tN A) (B : Hp D A s.heap ws H locs) (q0 : Nat) {n : Nat} {f : Nat → Int64} (ha : ws[q0]? = some (a, .inl (ct 2, n, .inr (.inl f)))) {i : Int32} {x : Int64} (hin : vp_in i n) (hdg : decode cc pc = .ok (.lastore, 1))
    (kk : ∀ (H1 : Heap) (locs1 : List Loc), Hp D A s.heap (ws.set q0 (a, .inl (ct 2, n, .inr (.inl (vp_updL f i.toNatClampNeg x))))) H1 locs1 → W p l e R s m args below meth c H1 locs1 cells slots Q (F0 m (pc + 1) ls rest)) : W p l e R s m args below meth c H locs cells slots Q (F0 m pc ls (.long x :: .int i :: .ref a :: rest)) := va_last E.1.1 E.1.2.1 E.2.1.1 B.1 B.2.1 B.2.2 q0 2 ha rfl hin hdg (fun H1 locs1 h1 h2 h3 => kk H1 locs1 ⟨h1, h2, h3⟩)
theorem row_nothing (E : Ev p s m args c own nL cc D (TY ct) tN A) (B : Hp D A s.heap ws H locs) (hm : (own, idx) ∈ NX) (hdg : decode cc pc = .ok (.getstatic idx, 3))
    (kk : W p l e R s m args below meth c H locs cells slots Q (F0 m (pc + 3) ls (.ref tN :: rest))) : W p l e R s m args below meth c H locs cells slots Q (F0 m pc ls rest) :=
  va_getsN E.1.1 E.1.2.1 E.2.1.2.2.1 B.2.2 E.1.2.2.2.1 (va_Nw.use rfl (E.2.1.2.1.2.1 (own, idx) hm)) (fun _ h => h) hdg kk
theorem row_obj (E : Ev p s m args c own nL cc D (TY ct) tN A) (h1 : Cond.methodLink own idx objectInit ∈ BIG) (h2 : Cond.instanceMethod objectInit ∈ BIG) (h3 : Cond.code objectInit ⟨#[0xb1]⟩ 1 none ∈ BIG) {lv : List (Nat × Value)} (hls : lv_has ls nL lv) (hdg : decode cc pc = .ok (.invokespecial idx, 3)) (hf : 1 ≤ R.frames) (hroom : (rest.map fun v => v.category).sum + 12 ≤ R.locals)
    (kk : W p l e R s m args below meth c H locs cells slots Q (F0 m (pc + 3) ls rest)) : W p l e R s m args below meth c H locs cells slots Q (F0 m pc ls (.ref a :: rest)) :=
  W.objInit (g := F0 m pc ls (.ref a :: rest)) E.1.1 E.1.2.1 E.1.2.2.2.1 (E.1.2.2.2.2 _ h1) (E.1.2.2.2.2 _ h2) (E.1.2.2.2.2 _ h3) rfl (by rw [E.1.2.2.1]; exact hls.1) rfl hdg hf (by show 2 * 0 + _ + 12 ≤ _; omega) kk
theorem row_new (E : Ev p s m args c own nL cc D (TY ct) tN A) (B : Hp D A s.heap ws H locs) (hin : ∀ w ∈ u_ws C TT NN, w ∈ BIG) (hc : classes[ci]? = some (C, TT, NN)) (ty0 : Nat → FieldType) (hty : ∀ k, k < NN → parseFieldDescriptor (TT k).2.2.1 = some (ty0 k)) (h1 : Cond.classLink own idx C ∈ BIG) (h2 : Cond.instantiable C NN ∈ BIG) (h3 : Cond.initialized C ∈ BIG) (hfs : ∀ j, j < NN → defaultValue (ty0 j) = vp_V fs j) (hcells : cells + 1 ≤ R.cells) (hslots : slots + NN ≤ R.slots) (hdg : decode cc pc = .ok (.new idx, 3))
    (kk : ∀ (q : Nat) (H1 : Heap), Hp D A s.heap (ws ++ [(q, .inr (ci, fs))]) H1 locs → W p l e R s m args below meth c H1 locs (cells + 1) (slots + NN) Q (F0 m (pc + 3) ls (.ref q :: rest))) : W p l e R s m args below meth c H locs cells slots Q (F0 m pc ls rest) :=
  va_new E.1.1 E.1.2.1 E.1.2.2.2.2 hin ty0 hty E.1.2.2.2.1 (E.1.2.2.2.2 _ h1) (E.1.2.2.2.2 _ h2) (E.1.2.2.2.2 _ h3) E.2.1.1 B.1 B.2.1 B.2.2 E.2.2 hc hfs hcells hslots hdg (fun q H1 g1 g2 g3 => kk q H1 ⟨g1, g2, g3⟩)
theorem row_newa (E : Ev p s m args c own nL cc D (TY ct) tN A) (B : Hp D A s.heap ws H locs) {atype : ArrayType} {ty : FieldType} (harr : Cond.arrayClass (newarray.typeOf atype) ∈ BIG) (hty : newarray.typeOf atype = ty) (j : Nat) (hj : (TY ct)[j]? = some (ct j, ty)) {n : Int32} {N' : Nat} {a0 : vp_A} (ha : ∀ cA : ClassId, vp_cell cA a0 = arrV cA N' (fun _ => defaultValue ty)) (hn : ¬ n < 0) (hN : n.toNatClampNeg = N') (hbytes : N' * componentBytes ty ≤ 536870912) (hcells : cells + 1 ≤ R.cells) (hslots : slots + N' ≤ R.slots) (hdg : decode cc pc = .ok (.newarray atype, 2))
    (kk : ∀ (q : Nat) (H1 : Heap), Hp D A s.heap (ws ++ [(q, .inl (ct j, a0))]) H1 locs → W p l e R s m args below meth c H1 locs (cells + 1) (slots + N') Q (F0 m (pc + 2) ls (.ref q :: rest))) : W p l e R s m args below meth c H locs cells slots Q (F0 m pc ls (.int n :: rest)) := by
  refine va_newa E.1.1 E.1.2.1 (E.1.2.2.2.2 _ harr) hty E.2.1.1 B.1 B.2.1 B.2.2 E.2.2 ha hn hN hbytes hcells hslots hdg (fun q cA H1 g0 g1 g2 g3 => ?_)
  have e1 : cA = ct j := ra_eq ((g0.2 (TY ct).length (cA, ty) (by rw [List.getElem?_append_right (Nat.le_refl _), Nat.sub_self]; rfl)).2) ((E.2.1.1.2 j _ hj).2)
  subst e1
  exact kk q H1 ⟨g1, g2, g3⟩
theorem row_newq (E : Ev p s m args c own nL cc D (TY ct) tN A) (B : Hp D A s.heap ws H locs) (h1 : Cond.classLink own idx RX7 ∈ BIG) {n : Int32} {N' : Nat} (hn : ¬ n < 0) (hN : n.toNatClampNeg = N') (hbytes : N' * 4 ≤ 536870912) (hcells : cells + 1 ≤ R.cells) (hslots : slots + N' ≤ R.slots) (hdg : decode cc pc = .ok (.anewarray idx, 3))
    (kk : ∀ (q : Nat) (H1 : Heap), Hp D A s.heap (ws ++ [(q, .inl (ct 5, N', .inr (.inr (.inr (.inr (fun _ => none))))))]) H1 locs → W p l e R s m args below meth c H1 locs (cells + 1) (slots + N') Q (F0 m (pc + 3) ls (.ref q :: rest))) : W p l e R s m args below meth c H locs cells slots Q (F0 m pc ls (.int n :: rest)) := by
  refine va_newq E.1.1 E.1.2.1 E.1.2.2.2.1 (E.1.2.2.2.2 _ h1) E.2.1.2.1.2.2.1 E.2.1.1 B.1 B.2.1 B.2.2 E.2.2 hn hN hbytes hcells hslots hdg (fun q cA H1 g0 g1 g2 g3 => ?_)
  have e1 : cA = ct 5 := ra_eq ((g0.2 (TY ct).length (cA, .object RX7) (by rw [List.getElem?_append_right (Nat.le_refl _), Nat.sub_self]; rfl)).2) ((E.2.1.1.2 5 _ rfl).2)
  subst e1
  exact kk q H1 ⟨g1, g2, g3⟩
theorem row_newqa (E : Ev p s m args c own nL cc D (TY ct) tN A) (B : Hp D A s.heap ws H locs) (h1 : Cond.classLink own idx "[I" ∈ BIG) {n : Int32} {N' : Nat} (hn : ¬ n < 0) (hN : n.toNatClampNeg = N') (hbytes : N' * 4 ≤ 536870912) (hcells : cells + 1 ≤ R.cells) (hslots : slots + N' ≤ R.slots) (hdg : decode cc pc = .ok (.anewarray idx, 3))
    (kk : ∀ (q : Nat) (H1 : Heap), Hp D A s.heap (ws ++ [(q, .inl (ct 4, N', .inr (.inr (.inr (.inr (fun _ => none))))))]) H1 locs → W p l e R s m args below meth c H1 locs (cells + 1) (slots + N') Q (F0 m (pc + 3) ls (.ref q :: rest))) : W p l e R s m args below meth c H locs cells slots Q (F0 m pc ls (.int n :: rest)) := by
  subst hN
  refine W.anewA (t := .int) (g := F0 m pc ls (.int n :: rest)) E.1.1 E.1.2.1 E.1.2.2.2.1 (E.1.2.2.2.2 _ h1) (show (Cond.arrayOver (.array .int)).before args s = true from E.2.1.2.1.2.2.2) rfl hdg rfl hn hbytes hcells hslots (fun cA kA comp f1 f2 f3 f4 => ?_)
  have e1 : cA = ct 4 := Option.some.inj (f1.symm.trans (E.2.1.1.2 4 _ rfl).2)
  subst e1
  generalize hH1 : H.push ({ cls := ct 4, slots := Array.replicate n.toNatClampNeg .null, vm := .none } : Cell) = H1
  have z1 : H1.size = H.size + 1 := by rw [← hH1, Array.size_push]
  have e1 : H1[H.size]? = some (arrV (ct 4) n.toNatClampNeg (fun _ => .null)) := by rw [← hH1, Array.getElem?_push_size, ← arrV_new]
  have o1 : ∀ q : Nat, q < H.size → H1[q]? = H[q]? := fun q hq => by rw [← hH1, Array.getElem?_push, if_neg (Nat.ne_of_lt hq)]
  have hk : ∀ (k : Nat) (x : Nat × va_E), ws[k]? = some x → H1[x.1]? = H[x.1]? := fun k x hx => o1 x.1 ((B.1 k x hx).lt)
  have hS := B.2.2
  refine kk H.size H1 ⟨(B.1.kept hk).app (fun k x hx => ?_), B.2.1.push B.1 rfl (E.2.2 _ hS.1), Nat.le_trans hS.1 (by omega), fun x h1 h2 => (o1 x (Nat.lt_of_lt_of_le h1 hS.1)).trans (hS.2.1 x h1 h2), hS.2.2⟩
  have hz : k < 1 := (List.getElem?_eq_some_iff.mp hx).1
  rw [show k = 0 by omega] at hx
  cases hx
  show H1[H.size]? = some (vp_cell _ _)
  rw [vp_cell_q]
  exact e1
/-! branches and sums in whole numbers -/
theorem b_eq (E : Ev p s m args c own nL cc D (TY ct) tN A) {x : Int32} {i : Int} (hx : x.toInt = i) {off : Int} {tgt : Nat} (hdg : decode cc pc = .ok (.ifCond .eq off, 3)) (ht : (pc : Int) + off = (tgt : Int)) (kt : i = 0 → W p l e R s m args below meth c H locs cells slots Q (F0 m tgt ls rest)) (kf : ¬ i = 0 → W p l e R s m args below meth c H locs cells slots Q (F0 m (pc + 3) ls rest)) : W p l e R s m args below meth c H locs cells slots Q (F0 m pc ls (.int x :: rest)) :=
  lv_if_eq E.1.1 E.1.2.1 hdg ht (fun q => kt (by rw [← hx, q]; rfl)) (fun q => kf (fun h => q (eq_of_toInt (by rw [hx, h]; rfl))))
theorem b_ne (E : Ev p s m args c own nL cc D (TY ct) tN A) {x : Int32} {i : Int} (hx : x.toInt = i) {off : Int} {tgt : Nat} (hdg : decode cc pc = .ok (.ifCond .ne off, 3)) (ht : (pc : Int) + off = (tgt : Int)) (kt : ¬ i = 0 → W p l e R s m args below meth c H locs cells slots Q (F0 m tgt ls rest)) (kf : i = 0 → W p l e R s m args below meth c H locs cells slots Q (F0 m (pc + 3) ls rest)) : W p l e R s m args below meth c H locs cells slots Q (F0 m pc ls (.int x :: rest)) :=
  lv_if_ne E.1.1 E.1.2.1 hdg ht (fun q => kt (fun h => q (eq_of_toInt (by rw [hx, h]; rfl)))) (fun q => kf (by rw [← hx, q]; rfl))
theorem b_lt (E : Ev p s m args c own nL cc D (TY ct) tN A) {x : Int32} {i : Int} (hx : x.toInt = i) {off : Int} {tgt : Nat} (hdg : decode cc pc = .ok (.ifCond .lt off, 3)) (ht : (pc : Int) + off = (tgt : Int)) (kt : i < 0 → W p l e R s m args below meth c H locs cells slots Q (F0 m tgt ls rest)) (kf : 0 ≤ i → W p l e R s m args below meth c H locs cells slots Q (F0 m (pc + 3) ls rest)) : W p l e R s m args below meth c H locs cells slots Q (F0 m pc ls (.int x :: rest)) :=
  lv_if_lt E.1.1 E.1.2.1 hdg ht (fun q => kt (by rw [← hx]; exact Int32.lt_iff_toInt_lt.mp q)) (fun q => kf (by rw [← hx]; exact Int.not_lt.mp (fun h => q (Int32.lt_iff_toInt_lt.mpr h))))
theorem b_ge (E : Ev p s m args c own nL cc D (TY ct) tN A) {x : Int32} {i : Int} (hx : x.toInt = i) {off : Int} {tgt : Nat} (hdg : decode cc pc = .ok (.ifCond .ge off, 3)) (ht : (pc : Int) + off = (tgt : Int)) (kt : 0 ≤ i → W p l e R s m args below meth c H locs cells slots Q (F0 m tgt ls rest)) (kf : i < 0 → W p l e R s m args below meth c H locs cells slots Q (F0 m (pc + 3) ls rest)) : W p l e R s m args below meth c H locs cells slots Q (F0 m pc ls (.int x :: rest)) :=
  lv_if_ge E.1.1 E.1.2.1 hdg ht (fun q => kt (by rw [← hx]; exact Int32.le_iff_toInt_le.mp q)) (fun q => kf (by rw [← hx]; exact Int.not_le.mp (fun h => q (Int32.le_iff_toInt_le.mpr h))))
theorem b_gt (E : Ev p s m args c own nL cc D (TY ct) tN A) {x : Int32} {i : Int} (hx : x.toInt = i) {off : Int} {tgt : Nat} (hdg : decode cc pc = .ok (.ifCond .gt off, 3)) (ht : (pc : Int) + off = (tgt : Int)) (kt : 0 < i → W p l e R s m args below meth c H locs cells slots Q (F0 m tgt ls rest)) (kf : i ≤ 0 → W p l e R s m args below meth c H locs cells slots Q (F0 m (pc + 3) ls rest)) : W p l e R s m args below meth c H locs cells slots Q (F0 m pc ls (.int x :: rest)) :=
  lv_if_gt E.1.1 E.1.2.1 hdg ht (fun q => kt (by rw [← hx]; exact Int32.lt_iff_toInt_lt.mp q)) (fun q => kf (by rw [← hx]; exact Int.not_lt.mp (fun h => q (Int32.lt_iff_toInt_lt.mpr h))))
theorem b_le (E : Ev p s m args c own nL cc D (TY ct) tN A) {x : Int32} {i : Int} (hx : x.toInt = i) {off : Int} {tgt : Nat} (hdg : decode cc pc = .ok (.ifCond .le off, 3)) (ht : (pc : Int) + off = (tgt : Int)) (kt : i ≤ 0 → W p l e R s m args below meth c H locs cells slots Q (F0 m tgt ls rest)) (kf : 0 < i → W p l e R s m args below meth c H locs cells slots Q (F0 m (pc + 3) ls rest)) : W p l e R s m args below meth c H locs cells slots Q (F0 m pc ls (.int x :: rest)) :=
  lv_if_le E.1.1 E.1.2.1 hdg ht (fun q => kt (by rw [← hx]; exact Int32.le_iff_toInt_le.mp q)) (fun q => kf (by rw [← hx]; exact Int.not_le.mp (fun h => q (Int32.le_iff_toInt_le.mpr h))))
theorem c_eq (E : Ev p s m args c own nL cc D (TY ct) tN A) {x y : Int32} {i j : Int} (hx : x.toInt = i) (hy : y.toInt = j) {off : Int} {tgt : Nat} (hdg : decode cc pc = .ok (.if_icmp .eq off, 3)) (ht : (pc : Int) + off = (tgt : Int)) (kt : i = j → W p l e R s m args below meth c H locs cells slots Q (F0 m tgt ls rest)) (kf : ¬ i = j → W p l e R s m args below meth c H locs cells slots Q (F0 m (pc + 3) ls rest)) : W p l e R s m args below meth c H locs cells slots Q (F0 m pc ls (.int y :: .int x :: rest)) :=
  lv_icmp_eq E.1.1 E.1.2.1 hdg ht (fun q => kt (by rw [← hx, ← hy, q])) (fun q => kf (fun h => q (eq_of_toInt (by rw [hx, hy, h]))))
theorem c_ne (E : Ev p s m args c own nL cc D (TY ct) tN A) {x y : Int32} {i j : Int} (hx : x.toInt = i) (hy : y.toInt = j) {off : Int} {tgt : Nat} (hdg : decode cc pc = .ok (.if_icmp .ne off, 3)) (ht : (pc : Int) + off = (tgt : Int)) (kt : ¬ i = j → W p l e R s m args below meth c H locs cells slots Q (F0 m tgt ls rest)) (kf : i = j → W p l e R s m args below meth c H locs cells slots Q (F0 m (pc + 3) ls rest)) : W p l e R s m args below meth c H locs cells slots Q (F0 m pc ls (.int y :: .int x :: rest)) :=
  lv_icmp_ne E.1.1 E.1.2.1 hdg ht (fun q => kt (fun h => q (eq_of_toInt (by rw [hx, hy, h])))) (fun q => kf (by rw [← hx, ← hy, q]))
theorem c_lt (E : Ev p s m args c own nL cc D (TY ct) tN A) {x y : Int32} {i j : Int} (hx : x.toInt = i) (hy : y.toInt = j) {off : Int} {tgt : Nat} (hdg : decode cc pc = .ok (.if_icmp .lt off, 3)) (ht : (pc : Int) + off = (tgt : Int)) (kt : i < j → W p l e R s m args below meth c H locs cells slots Q (F0 m tgt ls rest)) (kf : j ≤ i → W p l e R s m args below meth c H locs cells slots Q (F0 m (pc + 3) ls rest)) : W p l e R s m args below meth c H locs cells slots Q (F0 m pc ls (.int y :: .int x :: rest)) :=
  lv_icmp_lt E.1.1 E.1.2.1 hdg ht (fun q => kt (by rw [← hx, ← hy]; exact Int32.lt_iff_toInt_lt.mp q)) (fun q => kf (by rw [← hx, ← hy]; exact Int.not_lt.mp (fun h => q (Int32.lt_iff_toInt_lt.mpr h))))
theorem c_ge (E : Ev p s m args c own nL cc D (TY ct) tN A) {x y : Int32} {i j : Int} (hx : x.toInt = i) (hy : y.toInt = j) {off : Int} {tgt : Nat} (hdg : decode cc pc = .ok (.if_icmp .ge off, 3)) (ht : (pc : Int) + off = (tgt : Int)) (kt : j ≤ i → W p l e R s m args below meth c H locs cells slots Q (F0 m tgt ls rest)) (kf : i < j → W p l e R s m args below meth c H locs cells slots Q (F0 m (pc + 3) ls rest)) : W p l e R s m args below meth c H locs cells slots Q (F0 m pc ls (.int y :: .int x :: rest)) :=
  lv_icmp_ge E.1.1 E.1.2.1 hdg ht (fun q => kt (by rw [← hx, ← hy]; exact Int32.le_iff_toInt_le.mp q)) (fun q => kf (by rw [← hx, ← hy]; exact Int.not_le.mp (fun h => q (Int32.le_iff_toInt_le.mpr h))))
theorem c_gt (E : Ev p s m args c own nL cc D (TY ct) tN A) {x y : Int32} {i j : Int} (hx : x.toInt = i) (hy : y.toInt = j) {off : Int} {tgt : Nat} (hdg : decode cc pc = .ok (.if_icmp .gt off, 3)) (ht : (pc : Int) + off = (tgt : Int)) (kt : j < i → W p l e R s m args below meth c H locs cells slots Q (F0 m tgt ls rest)) (kf : i ≤ j → W p l e R s m args below meth c H locs cells slots Q (F0 m (pc + 3) ls rest)) : W p l e R s m args below meth c H locs cells slots Q (F0 m pc ls (.int y :: .int x :: rest)) :=
  lv_icmp_gt E.1.1 E.1.2.1 hdg ht (fun q => kt (by rw [← hx, ← hy]; exact Int32.lt_iff_toInt_lt.mp q)) (fun q => kf (by rw [← hx, ← hy]; exact Int.not_lt.mp (fun h => q (Int32.lt_iff_toInt_lt.mpr h))))
theorem c_le (E : Ev p s m args c own nL cc D (TY ct) tN A) {x y : Int32} {i j : Int} (hx : x.toInt = i) (hy : y.toInt = j) {off : Int} {tgt : Nat} (hdg : decode cc pc = .ok (.if_icmp .le off, 3)) (ht : (pc : Int) + off = (tgt : Int)) (kt : i ≤ j → W p l e R s m args below meth c H locs cells slots Q (F0 m tgt ls rest)) (kf : j < i → W p l e R s m args below meth c H locs cells slots Q (F0 m (pc + 3) ls rest)) : W p l e R s m args below meth c H locs cells slots Q (F0 m pc ls (.int y :: .int x :: rest)) :=
  lv_icmp_le E.1.1 E.1.2.1 hdg ht (fun q => kt (by rw [← hx, ← hy]; exact Int32.le_iff_toInt_le.mp q)) (fun q => kf (by rw [← hx, ← hy]; exact Int.not_le.mp (fun h => q (Int32.le_iff_toInt_le.mpr h))))
theorem i_add (E : Ev p s m args c own nL cc D (TY ct) tN A) {x y : Int32} {i j : Int} (hx : x.toInt = i) (hy : y.toInt = j) (h1 : -2147483648 ≤ i + j) (h2 : i + j ≤ 2147483647) (hdg : decode cc pc = .ok (.iadd, 1)) (kk : ∀ z : Int32, z.toInt = i + j → W p l e R s m args below meth c H locs cells slots Q (F0 m (pc + 1) ls (.int z :: rest))) : W p l e R s m args below meth c H locs cells slots Q (F0 m pc ls (.int y :: .int x :: rest)) :=
  lv_iadd E.1.1 E.1.2.1 hdg (kk _ (toInt_add hx hy h1 h2))
theorem i_sub (E : Ev p s m args c own nL cc D (TY ct) tN A) {x y : Int32} {i j : Int} (hx : x.toInt = i) (hy : y.toInt = j) (h1 : -2147483648 ≤ i - j) (h2 : i - j ≤ 2147483647) (hdg : decode cc pc = .ok (.isub, 1)) (kk : ∀ z : Int32, z.toInt = i - j → W p l e R s m args below meth c H locs cells slots Q (F0 m (pc + 1) ls (.int z :: rest))) : W p l e R s m args below meth c H locs cells slots Q (F0 m pc ls (.int y :: .int x :: rest)) :=
  lv_isub E.1.1 E.1.2.1 hdg (kk _ (toInt_sub hx hy h1 h2))
theorem i_mul (E : Ev p s m args c own nL cc D (TY ct) tN A) {x y : Int32} {i j z0 : Int} (hx : x.toInt = i) (hy : y.toInt = j) (hz : i * j = z0) (h1 : -2147483648 ≤ z0) (h2 : z0 ≤ 2147483647) (hdg : decode cc pc = .ok (.imul, 1)) (kk : ∀ z : Int32, z.toInt = z0 → W p l e R s m args below meth c H locs cells slots Q (F0 m (pc + 1) ls (.int z :: rest))) : W p l e R s m args below meth c H locs cells slots Q (F0 m pc ls (.int y :: .int x :: rest)) :=
  lv_imul E.1.1 E.1.2.1 hdg (kk _ (toInt_mul hx hy hz h1 h2))
theorem i_inc (E : Ev p s m args c own nL cc D (TY ct) tN A) {i k : Nat} {n : Int} {x : Int32} {j : Int} {lv : List (Nat × Value)} (hx : x.toInt = j) (hn0 : (Int32.ofInt n).toInt = n) (h1 : -2147483648 ≤ j + n) (h2 : j + n ≤ 2147483647) (hdg : decode cc pc = .ok (.iinc i n, 3)) (h : lv_has ls nL lv) (hk : lv[k]? = some (i, .int x)) (hn : i < nL)
    (kk : ∀ (z : Int32) (ls' : Array Slot), z.toInt = j + n → lv_has ls' nL ((i, Value.int z) :: lv.filter (fun q => !(q.1 == i) && !(q.1 + 1 == i && q.2.category == 2))) → W p l e R s m args below meth c H locs cells slots Q (F0 m (pc + 3) ls' rest)) : W p l e R s m args below meth c H locs cells slots Q (F0 m pc ls rest) :=
  lv_iinc E.1.1 E.1.2.1 hdg h hk rfl hn rfl (fun ls' hl => kk _ ls' (toInt_add hx hn0 h1 h2) hl)
theorem i_shl (E : Ev p s m args c own nL cc D (TY ct) tN A) {x y r : Int32} {i j : Int} (hx : x.toInt = i) (hy : y.toInt = j) (hr : (Int32.ofInt i <<< (Int32.ofInt j &&& 31)) = r) (hdg : decode cc pc = .ok (.ishl, 1)) (kk : W p l e R s m args below meth c H locs cells slots Q (F0 m (pc + 1) ls (.int r :: rest))) : W p l e R s m args below meth c H locs cells slots Q (F0 m pc ls (.int y :: .int x :: rest)) := by
  have e1 : x = Int32.ofInt i := by rw [← hx, Int32.ofInt_toInt]
  have e2 : y = Int32.ofInt j := by rw [← hy, Int32.ofInt_toInt]
  refine lv_ishl E.1.1 E.1.2.1 hdg ?_
  rw [e1, e2, hr]
  exact kk
theorem l_and0 (E : Ev p s m args c own nL cc D (TY ct) tN A) {x y : Int64} (hx : x = 0) (hdg : decode cc pc = .ok (.land, 1)) (kk : W p l e R s m args below meth c H locs cells slots Q (F0 m (pc + 1) ls (.long 0 :: rest))) : W p l e R s m args below meth c H locs cells slots Q (F0 m pc ls (.long y :: .long x :: rest)) := by
  refine lv_land E.1.1 E.1.2.1 hdg ?_
  rw [hx, Int64.zero_and]
  exact kk
theorem l_cmp0 (E : Ev p s m args c own nL cc D (TY ct) tN A) (hdg : decode cc pc = .ok (.lcmp, 1)) (kk : W p l e R s m args below meth c H locs cells slots Q (F0 m (pc + 1) ls (.int 0 :: rest))) : W p l e R s m args below meth c H locs cells slots Q (F0 m pc ls (.long 0 :: .long 0 :: rest)) := by
  refine W.lcmp E.1.1 E.1.2.1 hdg ?_
  rw [show lg_cmp 0 0 = 0 from rfl]
  exact kk
theorem any_l {x : Int64} (kk : ∀ z : Int64, W p l e R s m args below meth c H locs cells slots Q (F0 m pc ls (.long z :: rest))) : W p l e R s m args below meth c H locs cells slots Q (F0 m pc ls (.long x :: rest)) := kk x
theorem at_pc {n : Nat} (h : pc = n) (kk : W p l e R s m args below meth c H locs cells slots Q (F0 m n ls rest)) : W p l e R s m args below meth c H locs cells slots Q (F0 m pc ls rest) := by
  subst h
  exact kk
theorem at_n {n k1 k2 : Nat} (h : pc = n) (h1 : cells = k1) (h2 : slots = k2) (kk : W p l e R s m args below meth c H locs k1 k2 Q (F0 m n ls rest)) : W p l e R s m args below meth c H locs cells slots Q (F0 m pc ls rest) := by
  subst h; subst h1; subst h2
  exact kk
/-- a number of which nothing is asked -/
theorem any_i {x : Int32} (kk : ∀ z : Int32, W p l e R s m args below meth c H locs cells slots Q (F0 m pc ls (.int z :: rest))) : W p l e R s m args below meth c H locs cells slots Q (F0 m pc ls (.int x :: rest)) := kk x
end ROWS
