section EXROWS
variable {p : Program} {l : Launch} {e : Env} {R : Room} {s : State} {m : MethodId} {args : Array Value} {below : List Frame} {meth : Method} {c : Code} {H : Heap} {locs : List Loc} {cells slots : Nat} {Q : State → Prop}
variable {cc : ByteArray} {pc : Nat} {ls : Array Slot} {rest : List Value} {D : va_G} {ct : Nat → ClassId} {A : Nat → Prop} {own : String} {nL tN : Nat}
theorem any_iE {x : Int32} (kk : ∀ z : Int32, z = x → W p l e R s m args below meth c H locs cells slots Q (F0 m pc ls (.int z :: rest))) : W p l e R s m args below meth c H locs cells slots Q (F0 m pc ls (.int x :: rest)) := kk x rfl
theorem any_lE {x : Int64} (kk : ∀ z : Int64, z = x → W p l e R s m args below meth c H locs cells slots Q (F0 m pc ls (.long z :: rest))) : W p l e R s m args below meth c H locs cells slots Q (F0 m pc ls (.long x :: rest)) := kk x rfl
theorem i_addE (E : Ev p s m args c own nL cc D (TY ct) tN A) {x y : Int32} {i j : Int} (hx : x.toInt = i) (hy : y.toInt = j) (h1 : -2147483648 ≤ i + j) (h2 : i + j ≤ 2147483647) (hdg : decode cc pc = .ok (.iadd, 1)) (kk : ∀ z : Int32, (z.toInt = i + j) → z = x + y → W p l e R s m args below meth c H locs cells slots Q (F0 m (pc + 1) ls (.int z :: rest))) : W p l e R s m args below meth c H locs cells slots Q (F0 m pc ls (.int y :: .int x :: rest)) :=
  lv_iadd E.1.1 E.1.2.1 hdg (kk _ (toInt_add hx hy h1 h2) rfl)
theorem i_subE (E : Ev p s m args c own nL cc D (TY ct) tN A) {x y : Int32} {i j : Int} (hx : x.toInt = i) (hy : y.toInt = j) (h1 : -2147483648 ≤ i - j) (h2 : i - j ≤ 2147483647) (hdg : decode cc pc = .ok (.isub, 1)) (kk : ∀ z : Int32, (z.toInt = i - j) → z = x - y → W p l e R s m args below meth c H locs cells slots Q (F0 m (pc + 1) ls (.int z :: rest))) : W p l e R s m args below meth c H locs cells slots Q (F0 m pc ls (.int y :: .int x :: rest)) :=
  lv_isub E.1.1 E.1.2.1 hdg (kk _ (toInt_sub hx hy h1 h2) rfl)
theorem i_mulE (E : Ev p s m args c own nL cc D (TY ct) tN A) {x y : Int32} {i j z0 : Int} (hx : x.toInt = i) (hy : y.toInt = j) (hz : i * j = z0) (h1 : -2147483648 ≤ z0) (h2 : z0 ≤ 2147483647) (hdg : decode cc pc = .ok (.imul, 1)) (kk : ∀ z : Int32, (z.toInt = z0) → z = x * y → W p l e R s m args below meth c H locs cells slots Q (F0 m (pc + 1) ls (.int z :: rest))) : W p l e R s m args below meth c H locs cells slots Q (F0 m pc ls (.int y :: .int x :: rest)) :=
  lv_imul E.1.1 E.1.2.1 hdg (kk _ (toInt_mul hx hy hz h1 h2) rfl)
theorem i_divE (E : Ev p s m args c own nL cc D (TY ct) tN A) {x y : Int32} {i j : Int} (hx : x.toInt = i) (hy : y.toInt = j) (h0 : 0 ≤ i) (h1 : 0 < j) (hdg : decode cc pc = .ok (.idiv, 1)) (kk : ∀ z : Int32, (z.toInt = i / j) → z = x / y → W p l e R s m args below meth c H locs cells slots Q (F0 m (pc + 1) ls (.int z :: rest))) : W p l e R s m args below meth c H locs cells slots Q (F0 m pc ls (.int y :: .int x :: rest)) :=
  lv_idiv E.1.1 E.1.2.1 hdg (fun h => by rw [h] at hy; have : (0 : Int32).toInt = 0 := by decide
                                         omega) (kk _ (toInt_divc hx hy h0 h1) rfl)
theorem i_remE (E : Ev p s m args c own nL cc D (TY ct) tN A) {x y : Int32} {i j : Int} (hx : x.toInt = i) (hy : y.toInt = j) (h0 : 0 ≤ i) (h1 : 0 < j) (hdg : decode cc pc = .ok (.irem, 1)) (kk : ∀ z : Int32, (z.toInt = i % j) → z = x - x / y * y → W p l e R s m args below meth c H locs cells slots Q (F0 m (pc + 1) ls (.int z :: rest))) : W p l e R s m args below meth c H locs cells slots Q (F0 m pc ls (.int y :: .int x :: rest)) :=
  lv_irem E.1.1 E.1.2.1 hdg (fun h => by rw [h] at hy; have : (0 : Int32).toInt = 0 := by decide
                                         omega) (kk _ (toInt_remm hx hy h0 h1) rfl)
theorem i_divvE (E : Ev p s m args c own nL cc D (TY ct) tN A) {x y : Int32} {i j : Int} (hx : x.toInt = i) (hy : y.toInt = j) (h0 : 0 ≤ i) (h1 : 0 < j) (hdg : decode cc pc = .ok (.idiv, 1)) (kk : ∀ z : Int32, (0 ≤ z.toInt ∧ z.toInt ≤ i) → z = x / y → W p l e R s m args below meth c H locs cells slots Q (F0 m (pc + 1) ls (.int z :: rest))) : W p l e R s m args below meth c H locs cells slots Q (F0 m pc ls (.int y :: .int x :: rest)) :=
  lv_idiv E.1.1 E.1.2.1 hdg (fun h => by rw [h] at hy; have : (0 : Int32).toInt = 0 := by decide
                                         omega) (kk _ (by rw [toInt_divc hx hy h0 h1]; exact ⟨Int.ediv_nonneg h0 (by omega), Int.ediv_le_self j h0⟩) rfl)
theorem i_remvE (E : Ev p s m args c own nL cc D (TY ct) tN A) {x y : Int32} {i j : Int} (hx : x.toInt = i) (hy : y.toInt = j) (h0 : 0 ≤ i) (h1 : 0 < j) (hdg : decode cc pc = .ok (.irem, 1)) (kk : ∀ z : Int32, (0 ≤ z.toInt ∧ z.toInt < j ∧ z.toInt ≤ i) → z = x - x / y * y → W p l e R s m args below meth c H locs cells slots Q (F0 m (pc + 1) ls (.int z :: rest))) : W p l e R s m args below meth c H locs cells slots Q (F0 m pc ls (.int y :: .int x :: rest)) :=
  lv_irem E.1.1 E.1.2.1 hdg (fun h => by rw [h] at hy; have : (0 : Int32).toInt = 0 := by decide
                                         omega) (kk _ (by rw [toInt_remm hx hy h0 h1]; exact ⟨Int.emod_nonneg i (by omega), Int.emod_lt_of_pos i h1, emod_le0 h0 h1⟩) rfl)
theorem i_andrE (E : Ev p s m args c own nL cc D (TY ct) tN A) {x y : Int32} {b : Int} (hy : y.toInt = b) (hb : 0 ≤ b) (hdg : decode cc pc = .ok (.iand, 1)) (kk : ∀ z : Int32, (0 ≤ z.toInt ∧ z.toInt ≤ b) → z = x &&& y → W p l e R s m args below meth c H locs cells slots Q (F0 m (pc + 1) ls (.int z :: rest))) : W p l e R s m args below meth c H locs cells slots Q (F0 m pc ls (.int y :: .int x :: rest)) :=
  lv_iand E.1.1 E.1.2.1 hdg (kk _ (and_rng hy hb) rfl)
theorem i_andlE (E : Ev p s m args c own nL cc D (TY ct) tN A) {x y : Int32} {b : Int} (hx : x.toInt = b) (hb : 0 ≤ b) (hdg : decode cc pc = .ok (.iand, 1)) (kk : ∀ z : Int32, (0 ≤ z.toInt ∧ z.toInt ≤ b) → z = x &&& y → W p l e R s m args below meth c H locs cells slots Q (F0 m (pc + 1) ls (.int z :: rest))) : W p l e R s m args below meth c H locs cells slots Q (F0 m pc ls (.int y :: .int x :: rest)) :=
  lv_iand E.1.1 E.1.2.1 hdg (kk _ (by rw [show x &&& y = y &&& x from Int32.and_comm x y]; exact and_rng hx hb) rfl)
theorem i_incE (E : Ev p s m args c own nL cc D (TY ct) tN A) {i k : Nat} {n : Int} {x : Int32} {j : Int} {lv : List (Nat × Value)} (hx : x.toInt = j) (hn0 : (Int32.ofInt n).toInt = n) (h1 : -2147483648 ≤ j + n) (h2 : j + n ≤ 2147483647) (hdg : decode cc pc = .ok (.iinc i n, 3)) (h : lv_has ls nL lv) (hk : lv[k]? = some (i, .int x)) (hn : i < nL)
    (kk : ∀ (z : Int32) (ls' : Array Slot), z.toInt = j + n → z = x + Int32.ofInt n → lv_has ls' nL ((i, Value.int z) :: lv.filter (fun q => !(q.1 == i) && !(q.1 + 1 == i && q.2.category == 2))) → W p l e R s m args below meth c H locs cells slots Q (F0 m (pc + 3) ls' rest)) : W p l e R s m args below meth c H locs cells slots Q (F0 m pc ls rest) :=
  lv_iinc E.1.1 E.1.2.1 hdg h hk rfl hn rfl (fun ls' hl => kk _ ls' (toInt_add hx hn0 h1 h2) rfl hl)
theorem i_incwE (E : Ev p s m args c own nL cc D (TY ct) tN A) {i k : Nat} {n : Int} {x : Int32} {lv : List (Nat × Value)} (hdg : decode cc pc = .ok (.iinc i n, 3)) (h : lv_has ls nL lv) (hk : lv[k]? = some (i, .int x)) (hn : i < nL)
    (kk : ∀ (z : Int32) (ls' : Array Slot), z = x + Int32.ofInt n → lv_has ls' nL ((i, Value.int z) :: lv.filter (fun q => !(q.1 == i) && !(q.1 + 1 == i && q.2.category == 2))) → W p l e R s m args below meth c H locs cells slots Q (F0 m (pc + 3) ls' rest)) : W p l e R s m args below meth c H locs cells slots Q (F0 m pc ls rest) :=
  lv_iinc E.1.1 E.1.2.1 hdg h hk rfl hn rfl (fun ls' hl => kk _ ls' rfl hl)
theorem at_rq {q q2 : Nat} (h : q = q2) (kk : W p l e R s m args below meth c H locs cells slots Q (F0 m pc ls (.ref q2 :: rest))) : W p l e R s m args below meth c H locs cells slots Q (F0 m pc ls (.ref q :: rest)) := by
  subst h; exact kk
end EXROWS
def TP (ad : Nat → Nat) (p0 : Nat) : Prop := p0 = ad 1
def minI (x y : Int32) : Int32 := if x.toInt ≤ y.toInt then x else y
def maxI (x y : Int32) : Int32 := if y.toInt ≤ x.toInt then x else y
theorem minI_of {x y z : Int32} (h : (z.toInt = x.toInt ∨ z.toInt = y.toInt) ∧ z.toInt ≤ x.toInt ∧ z.toInt ≤ y.toInt) : z = minI x y := by
  unfold minI
  split <;> exact eq_of_toInt (by omega)
theorem maxI_of {x y z : Int32} (h : (z.toInt = x.toInt ∨ z.toInt = y.toInt) ∧ x.toInt ≤ z.toInt ∧ y.toInt ≤ z.toInt) : z = maxI x y := by
  unfold maxI
  split <;> exact eq_of_toInt (by omega)
theorem i_andr2E {p : Program} {l : Launch} {e : Env} {R : Room} {s : State} {m : MethodId} {args : Array Value} {below : List Frame} {meth : Method} {c : Code} {H : Heap} {locs : List Loc} {cells slots : Nat} {Q : State → Prop} {cc : ByteArray} {pc : Nat} {ls : Array Slot} {rest : List Value} {D : va_G} {T : List (ClassId × FieldType)} {A : Nat → Prop} {own : String} {nL tN : Nat} (E : Ev p s m args c own nL cc D T tN A) {x y : Int32} {b : Int} (hy : y.toInt = b) (hb : 0 ≤ b) (hdg : decode cc pc = .ok (.iand, 1)) (kk : ∀ z : Int32, (0 ≤ z.toInt ∧ z.toInt ≤ b) → z = x &&& y → W p l e R s m args below meth c H locs cells slots Q (F0 m (pc + 1) ls (.int z :: rest))) : W p l e R s m args below meth c H locs cells slots Q (F0 m pc ls (.int y :: .int x :: rest)) :=
  lv_iand E.1.1 E.1.2.1 hdg (kk _ (and_rng hy hb) rfl)
def bitsF (x : Int32) : Int32 :=
  let z1 : Int32 := (x.toUInt32 >>> ((1 : Int32).toUInt32 &&& Int32.toUInt32 31)).toInt32
  let z2 : Int32 := z1 &&& (1431655765 : Int32)
  let z3 : Int32 := x - z2
  let z4 : Int32 := z3 &&& (858993459 : Int32)
  let z5 : Int32 := (z3.toUInt32 >>> ((2 : Int32).toUInt32 &&& Int32.toUInt32 31)).toInt32
  let z6 : Int32 := z5 &&& (858993459 : Int32)
  let z7 : Int32 := z4 + z6
  let z8 : Int32 := (z7.toUInt32 >>> ((4 : Int32).toUInt32 &&& Int32.toUInt32 31)).toInt32
  let z9 : Int32 := z7 + z8
  let z10 : Int32 := z9 &&& (252645135 : Int32)
  let z11 : Int32 := (z10.toUInt32 >>> ((8 : Int32).toUInt32 &&& Int32.toUInt32 31)).toInt32
  let z12 : Int32 := z10 + z11
  let z13 : Int32 := (z12.toUInt32 >>> ((16 : Int32).toUInt32 &&& Int32.toUInt32 31)).toInt32
  let z14 : Int32 := z12 + z13
  let z15 : Int32 := z14 &&& (63 : Int32)
  z15
theorem bitsF_of {x z1 z2 z3 z4 z5 z6 z7 z8 z9 z10 z11 z12 z13 z14 z15 : Int32} (hz1 : z1 = (x.toUInt32 >>> ((1 : Int32).toUInt32 &&& Int32.toUInt32 31)).toInt32) (hz2 : z2 = z1 &&& (1431655765 : Int32)) (hz3 : z3 = x - z2) (hz4 : z4 = z3 &&& (858993459 : Int32)) (hz5 : z5 = (z3.toUInt32 >>> ((2 : Int32).toUInt32 &&& Int32.toUInt32 31)).toInt32) (hz6 : z6 = z5 &&& (858993459 : Int32)) (hz7 : z7 = z4 + z6) (hz8 : z8 = (z7.toUInt32 >>> ((4 : Int32).toUInt32 &&& Int32.toUInt32 31)).toInt32) (hz9 : z9 = z7 + z8) (hz10 : z10 = z9 &&& (252645135 : Int32)) (hz11 : z11 = (z10.toUInt32 >>> ((8 : Int32).toUInt32 &&& Int32.toUInt32 31)).toInt32) (hz12 : z12 = z10 + z11) (hz13 : z13 = (z12.toUInt32 >>> ((16 : Int32).toUInt32 &&& Int32.toUInt32 31)).toInt32) (hz14 : z14 = z12 + z13) (hz15 : z15 = z14 &&& (63 : Int32)) : z15 = bitsF x := by subst hz1; subst hz2; subst hz3; subst hz4; subst hz5; subst hz6; subst hz7; subst hz8; subst hz9; subst hz10; subst hz11; subst hz12; subst hz13; subst hz14; subst hz15; rfl
theorem jd_bitsE (l : Launch) (D : va_G) (tN : Nat) (A : Nat → Prop) {T : List (ClassId × FieldType)} {Bh : Heap → Prop} (x : Int32) : MIH l D T tN A yJ6_bitCount_0f7a4 cJ6_bitCount_0f7a4 1 (some .int) ({ frames := 0, cells := 0, slots := 0, locals := 0 } : Room) [.int x] Bh (fun v H => (0 ≤ v.toInt ∧ v.toInt ≤ 63) ∧ v = bitsF x ∧ Bh H) 0 0 := by
  refine Met.ofHI (by decide) (Nat.le_of_ble_eq_true rfl) ?_
  intro p e s m args below meth c ls Q E hS B hl ret
  replace hl : lv_has ls 1 [(0, .int x)] := hl
  refine lv_iload_n E.1.1 E.1.2.1 dJ6_bitCount_0f7a4_0 rfl (lv_at hl 0 rfl) ?_
  refine lv_iload_n E.1.1 E.1.2.1 dJ6_bitCount_0f7a4_1 rfl (lv_at hl 0 rfl) ?_
  refine lv_iconst (v := 1) E.1.1 E.1.2.1 dJ6_bitCount_0f7a4_2 (by decide) ?_
  refine lv_iushr E.1.1 E.1.2.1 dJ6_bitCount_0f7a4_3 rfl (any_iE (fun z1 xz1 => ?_))
  refine lv_ldcw (v := 1431655765) E.1.1 E.1.2.1 E.1.2.2.2.1 (E.1.2.2.2.2 _ wjb_265) dJ6_bitCount_0f7a4_4 ?_
  refine lv_iand E.1.1 E.1.2.1 dJ6_bitCount_0f7a4_7 (any_iE (fun z2 xz2 => ?_))
  refine at_pc (n := 8) rfl ?_
  refine lv_isub E.1.1 E.1.2.1 dJ6_bitCount_0f7a4_8 (any_iE (fun z3 xz3 => ?_))
  refine lv_istore_n (lv' := [(0, .int z3)]) E.1.1 E.1.2.1 dJ6_bitCount_0f7a4_9 rfl hl (by decide) rfl ?_
  clear hl
  intro ls hl
  refine lv_iload_n E.1.1 E.1.2.1 dJ6_bitCount_0f7a4_10 rfl (lv_at hl 0 rfl) ?_
  refine lv_ldcw (v := 858993459) E.1.1 E.1.2.1 E.1.2.2.2.1 (E.1.2.2.2.2 _ wjb_266) dJ6_bitCount_0f7a4_11 ?_
  refine lv_iand E.1.1 E.1.2.1 dJ6_bitCount_0f7a4_14 (any_iE (fun z4 xz4 => ?_))
  refine lv_iload_n E.1.1 E.1.2.1 dJ6_bitCount_0f7a4_15 rfl (lv_at hl 0 rfl) ?_
  refine at_pc (n := 16) rfl ?_
  refine lv_iconst (v := 2) E.1.1 E.1.2.1 dJ6_bitCount_0f7a4_16 (by decide) ?_
  refine lv_iushr E.1.1 E.1.2.1 dJ6_bitCount_0f7a4_17 rfl (any_iE (fun z5 xz5 => ?_))
  refine lv_ldcw (v := 858993459) E.1.1 E.1.2.1 E.1.2.2.2.1 (E.1.2.2.2.2 _ wjb_266) dJ6_bitCount_0f7a4_18 ?_
  refine lv_iand E.1.1 E.1.2.1 dJ6_bitCount_0f7a4_21 (any_iE (fun z6 xz6 => ?_))
  refine lv_iadd E.1.1 E.1.2.1 dJ6_bitCount_0f7a4_22 (any_iE (fun z7 xz7 => ?_))
  refine lv_istore_n (lv' := [(0, .int z7)]) E.1.1 E.1.2.1 dJ6_bitCount_0f7a4_23 rfl hl (by decide) rfl ?_
  clear hl
  intro ls hl
  refine at_pc (n := 24) rfl ?_
  refine lv_iload_n E.1.1 E.1.2.1 dJ6_bitCount_0f7a4_24 rfl (lv_at hl 0 rfl) ?_
  refine lv_iload_n E.1.1 E.1.2.1 dJ6_bitCount_0f7a4_25 rfl (lv_at hl 0 rfl) ?_
  refine lv_iconst (v := 4) E.1.1 E.1.2.1 dJ6_bitCount_0f7a4_26 (by decide) ?_
  refine lv_iushr E.1.1 E.1.2.1 dJ6_bitCount_0f7a4_27 rfl (any_iE (fun z8 xz8 => ?_))
  refine lv_iadd E.1.1 E.1.2.1 dJ6_bitCount_0f7a4_28 (any_iE (fun z9 xz9 => ?_))
  refine lv_ldcw (v := 252645135) E.1.1 E.1.2.1 E.1.2.2.2.1 (E.1.2.2.2.2 _ wjb_267) dJ6_bitCount_0f7a4_29 ?_
  refine at_pc (n := 32) rfl ?_
  refine lv_iand E.1.1 E.1.2.1 dJ6_bitCount_0f7a4_32 (any_iE (fun z10 xz10 => ?_))
  refine lv_istore_n (lv' := [(0, .int z10)]) E.1.1 E.1.2.1 dJ6_bitCount_0f7a4_33 rfl hl (by decide) rfl ?_
  clear hl
  intro ls hl
  refine lv_iload_n E.1.1 E.1.2.1 dJ6_bitCount_0f7a4_34 rfl (lv_at hl 0 rfl) ?_
  refine lv_iload_n E.1.1 E.1.2.1 dJ6_bitCount_0f7a4_35 rfl (lv_at hl 0 rfl) ?_
  refine lv_bipush (v := 8) E.1.1 E.1.2.1 dJ6_bitCount_0f7a4_36 (by decide) ?_
  refine lv_iushr E.1.1 E.1.2.1 dJ6_bitCount_0f7a4_38 rfl (any_iE (fun z11 xz11 => ?_))
  refine at_pc (n := 39) rfl ?_
  refine lv_iadd E.1.1 E.1.2.1 dJ6_bitCount_0f7a4_39 (any_iE (fun z12 xz12 => ?_))
  refine lv_istore_n (lv' := [(0, .int z12)]) E.1.1 E.1.2.1 dJ6_bitCount_0f7a4_40 rfl hl (by decide) rfl ?_
  clear hl
  intro ls hl
  refine lv_iload_n E.1.1 E.1.2.1 dJ6_bitCount_0f7a4_41 rfl (lv_at hl 0 rfl) ?_
  refine lv_iload_n E.1.1 E.1.2.1 dJ6_bitCount_0f7a4_42 rfl (lv_at hl 0 rfl) ?_
  refine lv_bipush (v := 16) E.1.1 E.1.2.1 dJ6_bitCount_0f7a4_43 (by decide) ?_
  refine lv_iushr E.1.1 E.1.2.1 dJ6_bitCount_0f7a4_45 rfl (any_iE (fun z13 xz13 => ?_))
  refine at_pc (n := 46) rfl ?_
  refine lv_iadd E.1.1 E.1.2.1 dJ6_bitCount_0f7a4_46 (any_iE (fun z14 xz14 => ?_))
  refine lv_istore_n (lv' := [(0, .int z14)]) E.1.1 E.1.2.1 dJ6_bitCount_0f7a4_47 rfl hl (by decide) rfl ?_
  clear hl
  intro ls hl
  refine lv_iload_n E.1.1 E.1.2.1 dJ6_bitCount_0f7a4_48 rfl (lv_at hl 0 rfl) ?_
  refine lv_bipush (v := 63) E.1.1 E.1.2.1 dJ6_bitCount_0f7a4_49 (by decide) ?_
  refine i_andr2E E (b := 63) (by decide) (by decide) dJ6_bitCount_0f7a4_51 (fun z15 ez15 xz15 => ?_)
  exact ret z15 _ _ _ _ ⟨ez15, bitsF_of xz1 xz2 xz3 xz4 xz5 xz6 xz7 xz8 xz9 xz10 xz11 xz12 xz13 xz14 xz15, B⟩ rfl hS dJ6_bitCount_0f7a4_52
