def RJ6 : String := "java/lang/Integer"
abbrev cJ6_bitCount_0f7a4 : ByteArray := prog_15_method_49_code
def yJ6_bitCount_0f7a4 : MethodName := ⟨RJ6, "bitCount", "(I)I"⟩
theorem dJ6_bitCount_0f7a4_0 : decode cJ6_bitCount_0f7a4 0 = .ok (.iload_n 0, 1) := by decide +kernel
theorem dJ6_bitCount_0f7a4_1 : decode cJ6_bitCount_0f7a4 1 = .ok (.iload_n 0, 1) := by decide +kernel
theorem dJ6_bitCount_0f7a4_2 : decode cJ6_bitCount_0f7a4 2 = .ok (.iconst 1, 1) := by decide +kernel
theorem dJ6_bitCount_0f7a4_3 : decode cJ6_bitCount_0f7a4 3 = .ok (.iushr, 1) := by decide +kernel
theorem dJ6_bitCount_0f7a4_4 : decode cJ6_bitCount_0f7a4 4 = .ok (.ldc_w 265, 3) := by decide +kernel
theorem dJ6_bitCount_0f7a4_7 : decode cJ6_bitCount_0f7a4 7 = .ok (.iand, 1) := by decide +kernel
theorem dJ6_bitCount_0f7a4_8 : decode cJ6_bitCount_0f7a4 8 = .ok (.isub, 1) := by decide +kernel
theorem dJ6_bitCount_0f7a4_9 : decode cJ6_bitCount_0f7a4 9 = .ok (.istore_n 0, 1) := by decide +kernel
theorem dJ6_bitCount_0f7a4_10 : decode cJ6_bitCount_0f7a4 10 = .ok (.iload_n 0, 1) := by decide +kernel
theorem dJ6_bitCount_0f7a4_11 : decode cJ6_bitCount_0f7a4 11 = .ok (.ldc_w 266, 3) := by decide +kernel
theorem dJ6_bitCount_0f7a4_14 : decode cJ6_bitCount_0f7a4 14 = .ok (.iand, 1) := by decide +kernel
theorem dJ6_bitCount_0f7a4_15 : decode cJ6_bitCount_0f7a4 15 = .ok (.iload_n 0, 1) := by decide +kernel
theorem dJ6_bitCount_0f7a4_16 : decode cJ6_bitCount_0f7a4 16 = .ok (.iconst 2, 1) := by decide +kernel
theorem dJ6_bitCount_0f7a4_17 : decode cJ6_bitCount_0f7a4 17 = .ok (.iushr, 1) := by decide +kernel
theorem dJ6_bitCount_0f7a4_18 : decode cJ6_bitCount_0f7a4 18 = .ok (.ldc_w 266, 3) := by decide +kernel
theorem dJ6_bitCount_0f7a4_21 : decode cJ6_bitCount_0f7a4 21 = .ok (.iand, 1) := by decide +kernel
theorem dJ6_bitCount_0f7a4_22 : decode cJ6_bitCount_0f7a4 22 = .ok (.iadd, 1) := by decide +kernel
theorem dJ6_bitCount_0f7a4_23 : decode cJ6_bitCount_0f7a4 23 = .ok (.istore_n 0, 1) := by decide +kernel
theorem dJ6_bitCount_0f7a4_24 : decode cJ6_bitCount_0f7a4 24 = .ok (.iload_n 0, 1) := by decide +kernel
theorem dJ6_bitCount_0f7a4_25 : decode cJ6_bitCount_0f7a4 25 = .ok (.iload_n 0, 1) := by decide +kernel
theorem dJ6_bitCount_0f7a4_26 : decode cJ6_bitCount_0f7a4 26 = .ok (.iconst 4, 1) := by decide +kernel
theorem dJ6_bitCount_0f7a4_27 : decode cJ6_bitCount_0f7a4 27 = .ok (.iushr, 1) := by decide +kernel
theorem dJ6_bitCount_0f7a4_28 : decode cJ6_bitCount_0f7a4 28 = .ok (.iadd, 1) := by decide +kernel
theorem dJ6_bitCount_0f7a4_29 : decode cJ6_bitCount_0f7a4 29 = .ok (.ldc_w 267, 3) := by decide +kernel
theorem dJ6_bitCount_0f7a4_32 : decode cJ6_bitCount_0f7a4 32 = .ok (.iand, 1) := by decide +kernel
theorem dJ6_bitCount_0f7a4_33 : decode cJ6_bitCount_0f7a4 33 = .ok (.istore_n 0, 1) := by decide +kernel
theorem dJ6_bitCount_0f7a4_34 : decode cJ6_bitCount_0f7a4 34 = .ok (.iload_n 0, 1) := by decide +kernel
theorem dJ6_bitCount_0f7a4_35 : decode cJ6_bitCount_0f7a4 35 = .ok (.iload_n 0, 1) := by decide +kernel
theorem dJ6_bitCount_0f7a4_36 : decode cJ6_bitCount_0f7a4 36 = .ok (.bipush 8, 2) := by decide +kernel
theorem dJ6_bitCount_0f7a4_38 : decode cJ6_bitCount_0f7a4 38 = .ok (.iushr, 1) := by decide +kernel
theorem dJ6_bitCount_0f7a4_39 : decode cJ6_bitCount_0f7a4 39 = .ok (.iadd, 1) := by decide +kernel
theorem dJ6_bitCount_0f7a4_40 : decode cJ6_bitCount_0f7a4 40 = .ok (.istore_n 0, 1) := by decide +kernel
theorem dJ6_bitCount_0f7a4_41 : decode cJ6_bitCount_0f7a4 41 = .ok (.iload_n 0, 1) := by decide +kernel
theorem dJ6_bitCount_0f7a4_42 : decode cJ6_bitCount_0f7a4 42 = .ok (.iload_n 0, 1) := by decide +kernel
theorem dJ6_bitCount_0f7a4_43 : decode cJ6_bitCount_0f7a4 43 = .ok (.bipush 16, 2) := by decide +kernel
theorem dJ6_bitCount_0f7a4_45 : decode cJ6_bitCount_0f7a4 45 = .ok (.iushr, 1) := by decide +kernel
theorem dJ6_bitCount_0f7a4_46 : decode cJ6_bitCount_0f7a4 46 = .ok (.iadd, 1) := by decide +kernel
theorem dJ6_bitCount_0f7a4_47 : decode cJ6_bitCount_0f7a4 47 = .ok (.istore_n 0, 1) := by decide +kernel
theorem dJ6_bitCount_0f7a4_48 : decode cJ6_bitCount_0f7a4 48 = .ok (.iload_n 0, 1) := by decide +kernel
theorem dJ6_bitCount_0f7a4_49 : decode cJ6_bitCount_0f7a4 49 = .ok (.bipush 63, 2) := by decide +kernel
theorem dJ6_bitCount_0f7a4_51 : decode cJ6_bitCount_0f7a4 51 = .ok (.iand, 1) := by decide +kernel
theorem dJ6_bitCount_0f7a4_52 : decode cJ6_bitCount_0f7a4 52 = .ok (.ireturn, 1) := by decide +kernel
section JDR
variable {p : Program} {l : Launch} {e : Env} {R : Room} {s : State} {m : MethodId} {args : Array Value} {below : List Frame} {meth : Method} {c : Code} {H : Heap} {locs : List Loc} {cells slots : Nat} {Q : State → Prop}
variable {cc : ByteArray} {pc : Nat} {ls : Array Slot} {rest : List Value} {D : va_G} {T : List (ClassId × FieldType)} {A : Nat → Prop} {own : String} {nL tN idx : Nat} {lv : List (Nat × Value)}
theorem jr_max (E : Ev p s m args c own nL cc D T tN A) (hls : lv_has ls nL lv) (h1 : Cond.methodLink own idx Lib.Math.max.name ∈ BIG) (h2 : Cond.static Lib.Math.max.name ∈ BIG) (h3 : Cond.initialized "java/lang/Math" ∈ BIG) (h4 : Cond.code Lib.Math.max.name Lib.Math.max.code 2 (some .int) ∈ BIG) (hf : 1 ≤ R.frames) (hloc : (rest.map fun v => v.category).sum + 13 ≤ R.locals) (hc : cells ≤ R.cells) (hs : slots ≤ R.slots) {x y : Int32} (hdg : decode cc pc = .ok (.invokestatic idx, 3))
    (kk : ∀ z : Int32, ((z.toInt = x.toInt ∨ z.toInt = y.toInt) ∧ x.toInt ≤ z.toInt ∧ y.toInt ≤ z.toInt) → W p l e R s m args below meth c H locs cells slots Q (F0 m (pc + 3) ls (.int z :: rest))) : W p l e R s m args below meth c H locs cells slots Q (F0 m pc ls (.int y :: .int x :: rest)) := by
  refine va_mmax E.1.1 E.1.2.1 (by rw [E.1.2.2.1]; exact hls.1.symm) E.1.2.2.2.1 (E.1.2.2.2.2 _ h1) (E.1.2.2.2.2 _ h2) (E.1.2.2.2.2 _ h3) (E.1.2.2.2.2 _ h4) hf hloc hc hs hdg (kk _ ?_)
  by_cases h : x < y
  · rw [if_pos h]
    have := Int32.lt_iff_toInt_lt.mp h
    exact ⟨Or.inr rfl, by omega, by omega⟩
  · rw [if_neg h]
    have := Int.not_lt.mp (fun q => h (Int32.lt_iff_toInt_lt.mpr q))
    exact ⟨Or.inl rfl, by omega, by omega⟩
theorem jr_min (E : Ev p s m args c own nL cc D T tN A) (hls : lv_has ls nL lv) (h1 : Cond.methodLink own idx Lib.Math.min.name ∈ BIG) (h2 : Cond.static Lib.Math.min.name ∈ BIG) (h3 : Cond.initialized "java/lang/Math" ∈ BIG) (h4 : Cond.code Lib.Math.min.name Lib.Math.min.code 2 (some .int) ∈ BIG) (hf : 1 ≤ R.frames) (hloc : (rest.map fun v => v.category).sum + 13 ≤ R.locals) (hc : cells ≤ R.cells) (hs : slots ≤ R.slots) {x y : Int32} (hdg : decode cc pc = .ok (.invokestatic idx, 3))
    (kk : ∀ z : Int32, ((z.toInt = x.toInt ∨ z.toInt = y.toInt) ∧ z.toInt ≤ x.toInt ∧ z.toInt ≤ y.toInt) → W p l e R s m args below meth c H locs cells slots Q (F0 m (pc + 3) ls (.int z :: rest))) : W p l e R s m args below meth c H locs cells slots Q (F0 m pc ls (.int y :: .int x :: rest)) := by
  refine va_mmin E.1.1 E.1.2.1 (by rw [E.1.2.2.1]; exact hls.1.symm) E.1.2.2.2.1 (E.1.2.2.2.2 _ h1) (E.1.2.2.2.2 _ h2) (E.1.2.2.2.2 _ h3) (E.1.2.2.2.2 _ h4) hf hloc hc hs hdg (kk _ ?_)
  by_cases h : y < x
  · rw [if_pos h]
    have := Int32.lt_iff_toInt_lt.mp h
    exact ⟨Or.inr rfl, by omega, by omega⟩
  · rw [if_neg h]
    have := Int.not_lt.mp (fun q => h (Int32.lt_iff_toInt_lt.mpr q))
    exact ⟨Or.inl rfl, by omega, by omega⟩
end JDR
theorem i_andr2 {p : Program} {l : Launch} {e : Env} {R : Room} {s : State} {m : MethodId} {args : Array Value} {below : List Frame} {meth : Method} {c : Code} {H : Heap} {locs : List Loc} {cells slots : Nat} {Q : State → Prop} {cc : ByteArray} {pc : Nat} {ls : Array Slot} {rest : List Value} {D : va_G} {T : List (ClassId × FieldType)} {A : Nat → Prop} {own : String} {nL tN : Nat} (E : Ev p s m args c own nL cc D T tN A) {x y : Int32} {b : Int} (hy : y.toInt = b) (hb : 0 ≤ b) (hdg : decode cc pc = .ok (.iand, 1)) (kk : ∀ z : Int32, (0 ≤ z.toInt ∧ z.toInt ≤ b) → W p l e R s m args below meth c H locs cells slots Q (F0 m (pc + 1) ls (.int z :: rest))) : W p l e R s m args below meth c H locs cells slots Q (F0 m pc ls (.int y :: .int x :: rest)) :=
  lv_iand E.1.1 E.1.2.1 hdg (kk _ (and_rng hy hb))
theorem wjb_265 : Cond.constant "java/lang/Integer" 265 (1431655765) ∈ BIG := big_mem 1126 (by decide +kernel) rfl
theorem wjb_266 : Cond.constant "java/lang/Integer" 266 (858993459) ∈ BIG := big_mem 1127 (by decide +kernel) rfl
theorem wjb_267 : Cond.constant "java/lang/Integer" 267 (252645135) ∈ BIG := big_mem 1128 (by decide +kernel) rfl
theorem jd_bits (l : Launch) (D : va_G) (tN : Nat) (A : Nat → Prop) {T : List (ClassId × FieldType)} {Bh : Heap → Prop} (x : Int32) : MIH l D T tN A yJ6_bitCount_0f7a4 cJ6_bitCount_0f7a4 1 (some .int) ({ frames := 0, cells := 0, slots := 0, locals := 0 } : Room) [.int x] Bh (fun v H => (0 ≤ v.toInt ∧ v.toInt ≤ 63) ∧ Bh H) 0 0 := by
  refine Met.ofHI (by decide) (Nat.le_of_ble_eq_true rfl) ?_
  intro p e s m args below meth c ls Q E hS B hl ret
  have hl : lv_has ls 1 [(0, .int x)] := hl
  refine lv_iload_n E.1.1 E.1.2.1 dJ6_bitCount_0f7a4_0 rfl (lv_at hl 0 rfl) ?_
  refine lv_iload_n E.1.1 E.1.2.1 dJ6_bitCount_0f7a4_1 rfl (lv_at hl 0 rfl) ?_
  refine lv_iconst (v := 1) E.1.1 E.1.2.1 dJ6_bitCount_0f7a4_2 (by decide) ?_
  refine lv_iushr E.1.1 E.1.2.1 dJ6_bitCount_0f7a4_3 rfl (any_i (fun z1 => ?_))
  refine lv_ldcw (v := 1431655765) E.1.1 E.1.2.1 E.1.2.2.2.1 (E.1.2.2.2.2 _ wjb_265) dJ6_bitCount_0f7a4_4 ?_
  refine lv_iand E.1.1 E.1.2.1 dJ6_bitCount_0f7a4_7 (any_i (fun z2 => ?_))
  refine at_pc (n := 8) rfl ?_
  refine lv_isub E.1.1 E.1.2.1 dJ6_bitCount_0f7a4_8 (any_i (fun z3 => ?_))
  refine lv_istore_n (lv' := [(0, .int z3)]) E.1.1 E.1.2.1 dJ6_bitCount_0f7a4_9 rfl hl (by decide) rfl (fun ls hl => ?_)
  refine lv_iload_n E.1.1 E.1.2.1 dJ6_bitCount_0f7a4_10 rfl (lv_at hl 0 rfl) ?_
  refine lv_ldcw (v := 858993459) E.1.1 E.1.2.1 E.1.2.2.2.1 (E.1.2.2.2.2 _ wjb_266) dJ6_bitCount_0f7a4_11 ?_
  refine lv_iand E.1.1 E.1.2.1 dJ6_bitCount_0f7a4_14 (any_i (fun z4 => ?_))
  refine lv_iload_n E.1.1 E.1.2.1 dJ6_bitCount_0f7a4_15 rfl (lv_at hl 0 rfl) ?_
  refine at_pc (n := 16) rfl ?_
  refine lv_iconst (v := 2) E.1.1 E.1.2.1 dJ6_bitCount_0f7a4_16 (by decide) ?_
  refine lv_iushr E.1.1 E.1.2.1 dJ6_bitCount_0f7a4_17 rfl (any_i (fun z5 => ?_))
  refine lv_ldcw (v := 858993459) E.1.1 E.1.2.1 E.1.2.2.2.1 (E.1.2.2.2.2 _ wjb_266) dJ6_bitCount_0f7a4_18 ?_
  refine lv_iand E.1.1 E.1.2.1 dJ6_bitCount_0f7a4_21 (any_i (fun z6 => ?_))
  refine lv_iadd E.1.1 E.1.2.1 dJ6_bitCount_0f7a4_22 (any_i (fun z7 => ?_))
  refine lv_istore_n (lv' := [(0, .int z7)]) E.1.1 E.1.2.1 dJ6_bitCount_0f7a4_23 rfl hl (by decide) rfl (fun ls hl => ?_)
  refine at_pc (n := 24) rfl ?_
  refine lv_iload_n E.1.1 E.1.2.1 dJ6_bitCount_0f7a4_24 rfl (lv_at hl 0 rfl) ?_
  refine lv_iload_n E.1.1 E.1.2.1 dJ6_bitCount_0f7a4_25 rfl (lv_at hl 0 rfl) ?_
  refine lv_iconst (v := 4) E.1.1 E.1.2.1 dJ6_bitCount_0f7a4_26 (by decide) ?_
  refine lv_iushr E.1.1 E.1.2.1 dJ6_bitCount_0f7a4_27 rfl (any_i (fun z8 => ?_))
  refine lv_iadd E.1.1 E.1.2.1 dJ6_bitCount_0f7a4_28 (any_i (fun z9 => ?_))
  refine lv_ldcw (v := 252645135) E.1.1 E.1.2.1 E.1.2.2.2.1 (E.1.2.2.2.2 _ wjb_267) dJ6_bitCount_0f7a4_29 ?_
  refine at_pc (n := 32) rfl ?_
  refine lv_iand E.1.1 E.1.2.1 dJ6_bitCount_0f7a4_32 (any_i (fun z10 => ?_))
  refine lv_istore_n (lv' := [(0, .int z10)]) E.1.1 E.1.2.1 dJ6_bitCount_0f7a4_33 rfl hl (by decide) rfl (fun ls hl => ?_)
  refine lv_iload_n E.1.1 E.1.2.1 dJ6_bitCount_0f7a4_34 rfl (lv_at hl 0 rfl) ?_
  refine lv_iload_n E.1.1 E.1.2.1 dJ6_bitCount_0f7a4_35 rfl (lv_at hl 0 rfl) ?_
  refine lv_bipush (v := 8) E.1.1 E.1.2.1 dJ6_bitCount_0f7a4_36 (by decide) ?_
  refine lv_iushr E.1.1 E.1.2.1 dJ6_bitCount_0f7a4_38 rfl (any_i (fun z11 => ?_))
  refine at_pc (n := 39) rfl ?_
  refine lv_iadd E.1.1 E.1.2.1 dJ6_bitCount_0f7a4_39 (any_i (fun z12 => ?_))
  refine lv_istore_n (lv' := [(0, .int z12)]) E.1.1 E.1.2.1 dJ6_bitCount_0f7a4_40 rfl hl (by decide) rfl (fun ls hl => ?_)
  refine lv_iload_n E.1.1 E.1.2.1 dJ6_bitCount_0f7a4_41 rfl (lv_at hl 0 rfl) ?_
  refine lv_iload_n E.1.1 E.1.2.1 dJ6_bitCount_0f7a4_42 rfl (lv_at hl 0 rfl) ?_
  refine lv_bipush (v := 16) E.1.1 E.1.2.1 dJ6_bitCount_0f7a4_43 (by decide) ?_
  refine lv_iushr E.1.1 E.1.2.1 dJ6_bitCount_0f7a4_45 rfl (any_i (fun z13 => ?_))
  refine at_pc (n := 46) rfl ?_
  refine lv_iadd E.1.1 E.1.2.1 dJ6_bitCount_0f7a4_46 (any_i (fun z14 => ?_))
  refine lv_istore_n (lv' := [(0, .int z14)]) E.1.1 E.1.2.1 dJ6_bitCount_0f7a4_47 rfl hl (by decide) rfl (fun ls hl => ?_)
  refine lv_iload_n E.1.1 E.1.2.1 dJ6_bitCount_0f7a4_48 rfl (lv_at hl 0 rfl) ?_
  refine lv_bipush (v := 63) E.1.1 E.1.2.1 dJ6_bitCount_0f7a4_49 (by decide) ?_
  refine i_andr2 E (b := 63) (by decide) (by decide) dJ6_bitCount_0f7a4_51 (fun z15 ez15 => ?_)
  exact ret z15 _ _ _ _ ⟨ez15, B⟩ rfl hS dJ6_bitCount_0f7a4_52
