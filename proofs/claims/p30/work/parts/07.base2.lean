theorem upd_el {f : Nat → Int32} {x v : Int32} {i : Int} (h : x.toInt = i) : (upd f x.toNatClampNeg v i.toNat).toInt = v.toInt := by
  subst h
  show (upd f x.toNatClampNeg v x.toNatClampNeg).toInt = v.toInt
  unfold upd
  rw [if_pos rfl]
theorem upd_ne_el {f : Nat → Int32} {x v : Int32} {i : Int} (j : Int) (h : x.toInt = i) (h0 : 0 ≤ j) (h1 : j ≠ i) (h2 : 0 ≤ i) : (upd f x.toNatClampNeg v j.toNat).toInt = (f j.toNat).toInt := by
  subst h
  have : x.toNatClampNeg = x.toInt.toNat := rfl
  unfold upd
  rw [this, if_neg (by omega)]
theorem upd_q {f : Nat → Int32} {x v : Int32} {i : Int} {P : Nat → Int32 → Prop} (h : x.toInt = i) (h1 : P i.toNat v) (h2 : ∀ j, j ≠ i.toNat → P j (f j)) : ∀ j, P j (upd f x.toNatClampNeg v j) := by
  subst h
  have e : x.toNatClampNeg = x.toInt.toNat := rfl
  intro j
  unfold upd
  rw [e]
  split
  · rename_i hj; rw [hj]; exact h1
  · rename_i hj; exact h2 j hj
theorem and_pred_lt {x : Int32} (h : x.toInt ≠ 0) : (x &&& (x - 1)).toBitVec.toNat < x.toBitVec.toNat := by
  have h1 : (x &&& (x - 1)).toBitVec.toNat = (x.toBitVec &&& (x.toBitVec - 1#32)).toNat := rfl
  have h2 : (x.toBitVec &&& (x.toBitVec - 1#32)).toNat ≤ (x.toBitVec - 1#32).toNat := by
    rw [BitVec.toNat_and]; exact Nat.and_le_right
  have h3 : x.toBitVec.toNat ≠ 0 := by
    intro h0
    have : x.toBitVec = 0#32 := BitVec.eq_of_toNat_eq (by simpa using h0)
    apply h
    show x.toBitVec.toInt = 0
    rw [this]; rfl
  have h4 := x.toBitVec.isLt
  have h5 : (x.toBitVec - 1#32).toNat = x.toBitVec.toNat - 1 := by
    rw [BitVec.toNat_sub]
    simp
    omega
  omega
theorem el_eq {f : Nat → Int32} {x : Int32} {i : Int} (h : x.toInt = i) : (f x.toNatClampNeg).toInt = (f i.toNat).toInt := by
  subst h; rfl
theorem any_ir {p : Program} {l : Launch} {e : Env} {R : Room} {s : State} {m : MethodId} {args : Array Value} {below : List Frame} {meth : Method} {c : Code} {H : Heap} {locs : List Loc} {cells slots : Nat} {Q : State → Prop} {pc : Nat} {ls : Array Slot} {rest : List Value} {x : Int32} {P : Int32 → Prop} (hx : P x) (kk : ∀ z : Int32, P z → W p l e R s m args below meth c H locs cells slots Q (F0 m pc ls (.int z :: rest))) : W p l e R s m args below meth c H locs cells slots Q (F0 m pc ls (.int x :: rest)) := kk x hx
theorem upd_rng {f : Nat → Int32} {P : Int32 → Prop} {i : Nat} {x : Int32} (h : ∀ j, P (f j)) (hx : P x) : ∀ j, P (upd f i x j) := by
  intro j
  unfold upd
  split
  · exact hx
  · exact h j
theorem and_rng {x y : Int32} {c : Int} (hy : y.toInt = c) (hc : 0 ≤ c) : 0 ≤ (x &&& y).toInt ∧ (x &&& y).toInt ≤ c := by
  have h1 : (x &&& y).toInt = (x.toBitVec &&& y.toBitVec).toInt := rfl
  have hy2 : y.toBitVec.toInt = c := hy
  have hlt : y.toBitVec.toNat < 2147483648 := by
    rw [BitVec.toInt_eq_toNat_cond] at hy2
    split at hy2
    · omega
    · have := y.toBitVec.isLt; omega
  have hyn : (y.toBitVec.toNat : Int) = c := by
    rw [BitVec.toInt_eq_toNat_cond] at hy2
    split at hy2
    · exact hy2
    · omega
  have hle : (x.toBitVec &&& y.toBitVec).toNat ≤ y.toBitVec.toNat := by
    rw [BitVec.toNat_and]
    exact Nat.and_le_right
  rw [h1, BitVec.toInt_eq_toNat_cond]
  split
  · omega
  · omega
theorem nar_b {x : Int32} (h1 : -128 ≤ x.toInt) (h2 : x.toInt ≤ 127) : vp_nar .byte x = x := by
  rw [vp_nar_byte]
  apply eq_of_toInt
  have e1 : x.toInt8.toInt32.toInt = x.toInt8.toInt := by simp
  rw [e1]
  have e2 : x.toInt8.toInt = x.toInt.bmod 256 := by simp [Int32.toInt_toInt8]
  rw [e2, Int.bmod_def]
  omega
theorem i2b_id {x : Int32} {i : Int} (hx : x.toInt = i) (h1 : -128 ≤ i) (h2 : i ≤ 127) : x.toInt8.toInt32.toInt = i := by
  subst hx
  rw [← vp_nar_byte, nar_b h1 h2]
theorem toInt_divc {x y : Int32} {i j : Int} (hx : x.toInt = i) (hy : y.toInt = j) (h0 : 0 ≤ i) (hj : 0 < j) : (x / y).toInt = i / j := by
  have hxb : i ≤ 2147483647 := by rw [← hx]; exact Int32.toInt_le x
  rw [Int32.toInt_div, hx, hy, Int.tdiv_eq_ediv_of_nonneg h0, Int.bmod_def]
  have h1 : 0 ≤ i / j := Int.ediv_nonneg h0 (by omega)
  have h2 : i / j ≤ i := Int.ediv_le_self j h0
  omega
theorem toInt_remc {x y : Int32} {i j : Int} (hx : x.toInt = i) (hy : y.toInt = j) (h0 : 0 ≤ i) (hj : 0 < j) : (x % y).toInt = i % j := by
  rw [Int32.toInt_mod, hx, hy, Int.tmod_eq_emod_of_nonneg h0]
theorem toInt_remm {x y : Int32} {i j : Int} (hx : x.toInt = i) (hy : y.toInt = j) (h0 : 0 ≤ i) (hj : 0 < j) : (x - x / y * y).toInt = i % j := by
  have hxb : i ≤ 2147483647 := by rw [← hx]; exact Int32.toInt_le x
  have h1 := toInt_divc hx hy h0 hj
  have h2 : 0 ≤ i / j := Int.ediv_nonneg h0 (by omega)
  have h3 := Int.emod_def i j
  rw [Int.mul_comm j (i / j)] at h3
  have h4 := Int.emod_nonneg i (show j ≠ 0 by omega)
  have h5 : 0 ≤ i / j * j := Int.mul_nonneg h2 (by omega)
  have h6 : ((x / y) * y).toInt = i / j * j := toInt_mul h1 hy rfl (by omega) (by omega)
  have h7 := toInt_sub hx h6 (by omega) (by omega)
  rw [h7]; omega
theorem emod_le0 {i j : Int} (h0 : 0 ≤ i) (hj : 0 < j) : i % j ≤ i := by
  have h3 := Int.emod_def i j
  have h2 : 0 ≤ j * (i / j) := Int.mul_nonneg (by omega) (Int.ediv_nonneg h0 (by omega))
  generalize j * (i / j) = t at h2 h3
  generalize i % j = u at h3
  omega
section ROWS2
variable {p : Program} {l : Launch} {e : Env} {R : Room} {s : State} {m : MethodId} {args : Array Value} {below : List Frame} {meth : Method} {c : Code} {H : Heap} {locs : List Loc} {cells slots : Nat} {Q : State → Prop}
variable {cc : ByteArray} {pc : Nat} {ls : Array Slot} {rest : List Value} {D : va_G} {ct : Nat → ClassId} {A : Nat → Prop} {own : String} {nL tN : Nat}
theorem i_divv (E : Ev p s m args c own nL cc D (TY ct) tN A) {x y : Int32} {i j : Int} (hx : x.toInt = i) (hy : y.toInt = j) (h0 : 0 ≤ i) (h1 : 0 < j) (hdg : decode cc pc = .ok (.idiv, 1)) (kk : ∀ z : Int32, (0 ≤ z.toInt ∧ z.toInt ≤ i) → W p l e R s m args below meth c H locs cells slots Q (F0 m (pc + 1) ls (.int z :: rest))) : W p l e R s m args below meth c H locs cells slots Q (F0 m pc ls (.int y :: .int x :: rest)) :=
  lv_idiv E.1.1 E.1.2.1 hdg (fun h => by rw [h] at hy; have : (0 : Int32).toInt = 0 := by decide
                                         omega) (kk _ (by rw [toInt_divc hx hy h0 h1]; exact ⟨Int.ediv_nonneg h0 (by omega), Int.ediv_le_self j h0⟩))
theorem i_remv (E : Ev p s m args c own nL cc D (TY ct) tN A) {x y : Int32} {i j : Int} (hx : x.toInt = i) (hy : y.toInt = j) (h0 : 0 ≤ i) (h1 : 0 < j) (hdg : decode cc pc = .ok (.irem, 1)) (kk : ∀ z : Int32, (0 ≤ z.toInt ∧ z.toInt < j ∧ z.toInt ≤ i) → W p l e R s m args below meth c H locs cells slots Q (F0 m (pc + 1) ls (.int z :: rest))) : W p l e R s m args below meth c H locs cells slots Q (F0 m pc ls (.int y :: .int x :: rest)) :=
  lv_irem E.1.1 E.1.2.1 hdg (fun h => by rw [h] at hy; have : (0 : Int32).toInt = 0 := by decide
                                         omega) (kk _ (by rw [toInt_remm hx hy h0 h1]; exact ⟨Int.emod_nonneg i (by omega), Int.emod_lt_of_pos i h1, emod_le0 h0 h1⟩))
theorem i_incw (E : Ev p s m args c own nL cc D (TY ct) tN A) {i k : Nat} {n : Int} {x : Int32} {lv : List (Nat × Value)} (hdg : decode cc pc = .ok (.iinc i n, 3)) (h : lv_has ls nL lv) (hk : lv[k]? = some (i, .int x)) (hn : i < nL)
    (kk : ∀ (z : Int32) (ls' : Array Slot), lv_has ls' nL ((i, Value.int z) :: lv.filter (fun q => !(q.1 == i) && !(q.1 + 1 == i && q.2.category == 2))) → W p l e R s m args below meth c H locs cells slots Q (F0 m (pc + 3) ls' rest)) : W p l e R s m args below meth c H locs cells slots Q (F0 m pc ls rest) :=
  lv_iinc E.1.1 E.1.2.1 hdg h hk rfl hn rfl (fun ls' hl => kk _ ls' hl)
theorem i_andr (E : Ev p s m args c own nL cc D (TY ct) tN A) {x y : Int32} {b : Int} (hy : y.toInt = b) (hb : 0 ≤ b) (hdg : decode cc pc = .ok (.iand, 1)) (kk : ∀ z : Int32, (0 ≤ z.toInt ∧ z.toInt ≤ b) → W p l e R s m args below meth c H locs cells slots Q (F0 m (pc + 1) ls (.int z :: rest))) : W p l e R s m args below meth c H locs cells slots Q (F0 m pc ls (.int y :: .int x :: rest)) :=
  lv_iand E.1.1 E.1.2.1 hdg (kk _ (and_rng hy hb))
theorem i_andl (E : Ev p s m args c own nL cc D (TY ct) tN A) {x y : Int32} {b : Int} (hx : x.toInt = b) (hb : 0 ≤ b) (hdg : decode cc pc = .ok (.iand, 1)) (kk : ∀ z : Int32, (0 ≤ z.toInt ∧ z.toInt ≤ b) → W p l e R s m args below meth c H locs cells slots Q (F0 m (pc + 1) ls (.int z :: rest))) : W p l e R s m args below meth c H locs cells slots Q (F0 m pc ls (.int y :: .int x :: rest)) :=
  lv_iand E.1.1 E.1.2.1 hdg (kk _ (by rw [show x &&& y = y &&& x from Int32.and_comm x y]; exact and_rng hx hb))
theorem i_div (E : Ev p s m args c own nL cc D (TY ct) tN A) {x y : Int32} {i j : Int} (hx : x.toInt = i) (hy : y.toInt = j) (h0 : 0 ≤ i) (h1 : 0 < j) (hdg : decode cc pc = .ok (.idiv, 1)) (kk : ∀ z : Int32, z.toInt = i / j → W p l e R s m args below meth c H locs cells slots Q (F0 m (pc + 1) ls (.int z :: rest))) : W p l e R s m args below meth c H locs cells slots Q (F0 m pc ls (.int y :: .int x :: rest)) :=
  lv_idiv E.1.1 E.1.2.1 hdg (fun h => by rw [h] at hy; have : (0 : Int32).toInt = 0 := by decide
                                         omega) (kk _ (toInt_divc hx hy h0 h1))
theorem i_rem (E : Ev p s m args c own nL cc D (TY ct) tN A) {x y : Int32} {i j : Int} (hx : x.toInt = i) (hy : y.toInt = j) (h0 : 0 ≤ i) (h1 : 0 < j) (hdg : decode cc pc = .ok (.irem, 1)) (kk : ∀ z : Int32, z.toInt = i % j → W p l e R s m args below meth c H locs cells slots Q (F0 m (pc + 1) ls (.int z :: rest))) : W p l e R s m args below meth c H locs cells slots Q (F0 m pc ls (.int y :: .int x :: rest)) :=
  lv_irem E.1.1 E.1.2.1 hdg (fun h => by rw [h] at hy; have : (0 : Int32).toInt = 0 := by decide
                                         omega) (kk _ (toInt_remm hx hy h0 h1))
end ROWS2
theorem lk_out {ps : List (Int × Int)} {dflt x : Int} (h : ∀ q ∈ ps, q.1 ≠ x) : Op.lookupswitch.offset ps dflt x = dflt := by
  induction ps with
  | nil => rfl
  | cons q r ih =>
    obtain ⟨a, o⟩ := q
    rw [Op.lookupswitch.offset_cons, if_neg (h (a, o) (List.mem_cons_self ..))]
    exact ih (fun q hq => h q (List.mem_cons_of_mem _ hq))
