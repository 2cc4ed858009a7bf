/-! an instruction by its bytes: a code as one great number, first byte lowest, 1 behind the last -/
def cdGo : List UInt8 → Nat → Bool
  | [], N => N == 1
  | b :: r, N => b.toNat == N % 256 && cdGo r (N / 256)
def CodeIs (c : ByteArray) (N : Nat) : Prop := cdGo c.data.toList N = true
theorem cdGo_at : ∀ (l : List UInt8) (N : Nat), cdGo l N = true → ∀ p : Nat, 2 ≤ N / 256 ^ p → ∃ h : p < l.length, l[p].toNat = N / 256 ^ p % 256
  | [], N, h, p, h2 => by
    simp only [cdGo, beq_iff_eq] at h
    subst h
    have : 1 / 256 ^ p ≤ 1 := Nat.div_le_self _ _
    omega
  | b :: r, N, h, p, h2 => by
    simp only [cdGo, Bool.and_eq_true, beq_iff_eq] at h
    cases p with
    | zero => exact ⟨Nat.succ_pos _, by simpa using h.1⟩
    | succ p =>
      have e : N / 256 ^ (p + 1) = N / 256 / 256 ^ p := by rw [Nat.pow_succ, Nat.mul_comm, Nat.div_div_eq_div_mul]
      rw [e] at h2 ⊢
      obtain ⟨g, g2⟩ := cdGo_at r (N / 256) h.2 p h2
      exact ⟨Nat.succ_lt_succ g, by simpa using g2⟩
def Bt (c : ByteArray) (p x : Nat) : Prop := ∃ h : p < c.size, c[p].toNat = x
theorem CodeIs.bt {c : ByteArray} {N p x : Nat} (h : CodeIs c N) (h2 : 2 ≤ N / 256 ^ p) (hx : N / 256 ^ p % 256 = x) : Bt c p x := by
  obtain ⟨g, g2⟩ := cdGo_at _ _ h p h2
  exact ⟨by simpa using g, by rw [← hx, ← g2]; rfl⟩
/-- one byte; two; three -/
theorem CodeIs.b1 {c : ByteArray} {N p x : Nat} (h : CodeIs c N) (e : (Nat.ble 2 (N >>> (8 * p)) && Nat.beq ((N >>> (8 * p)) % 256) x) = true) : Bt c p x := by
  simp only [Bool.and_eq_true, Nat.ble_eq, Nat.beq_eq, Nat.shiftRight_eq_div_pow, Nat.pow_mul] at e
  exact h.bt e.1 e.2
theorem CodeIs.b2 {c : ByteArray} {N p x y : Nat} (h : CodeIs c N) (e : (Nat.ble 512 (N >>> (8 * p)) && (Nat.beq ((N >>> (8 * p)) % 256) x && Nat.beq ((N >>> (8 * p)) / 256 % 256) y)) = true) : Bt c p x ∧ Bt c (p + 1) y := by
  simp only [Bool.and_eq_true, Nat.ble_eq, Nat.beq_eq, Nat.shiftRight_eq_div_pow, Nat.pow_mul] at e
  have e1 : N / 256 ^ (p + 1) = N / 256 ^ p / 256 := by rw [Nat.pow_succ, Nat.div_div_eq_div_mul]
  exact ⟨h.bt (by have := e.1; simp only [show (2 : Nat) ^ 8 = 256 from rfl] at *; omega) e.2.1, h.bt (by rw [e1]; have := e.1; simp only [show (2 : Nat) ^ 8 = 256 from rfl] at *; omega) (by rw [e1]; exact e.2.2)⟩
theorem CodeIs.b3 {c : ByteArray} {N p x y z : Nat} (h : CodeIs c N) (e : (Nat.ble 131072 (N >>> (8 * p)) && (Nat.beq ((N >>> (8 * p)) % 256) x && (Nat.beq ((N >>> (8 * p)) / 256 % 256) y && Nat.beq ((N >>> (8 * p)) / 65536 % 256) z))) = true) : Bt c p x ∧ Bt c (p + 1) y ∧ Bt c (p + 1 + 1) z := by
  simp only [Bool.and_eq_true, Nat.ble_eq, Nat.beq_eq, Nat.shiftRight_eq_div_pow, Nat.pow_mul] at e
  have e1 : N / 256 ^ (p + 1) = N / 256 ^ p / 256 := by rw [Nat.pow_succ, Nat.div_div_eq_div_mul]
  have e2 : N / 256 ^ (p + 1 + 1) = N / 256 ^ p / 65536 := by rw [Nat.pow_succ, Nat.pow_succ, Nat.mul_assoc, Nat.div_div_eq_div_mul]
  exact ⟨h.bt (by have := e.1; simp only [show (2 : Nat) ^ 8 = 256 from rfl] at *; omega) e.2.1, h.bt (by rw [e1]; have := e.1; simp only [show (2 : Nat) ^ 8 = 256 from rfl] at *; omega) (by rw [e1]; exact e.2.2.1), h.bt (by rw [e2]; have := e.1; simp only [show (2 : Nat) ^ 8 = 256 from rfl] at *; omega) (by rw [e2]; exact e.2.2.2)⟩
theorem u1_at {c : ByteArray} {p x : Nat} (h : Bt c p x) : (Reader.u1 : Decoder Nat) c p = .ok (x, p + 1) := by
  obtain ⟨hp, e⟩ := h
  have q : (Reader.u1 : Decoder Nat) c p = (dite (p < c.size) (fun _ => (do set (p + 1); pure c[p].toNat : Decoder Nat)) (fun _ => throw (HasTruncated.truncated p))) c p := rfl
  rw [q, dif_pos hp, e]
  rfl
theorem bind_at {α β : Type} {m : Decoder α} {f : α → Decoder β} {c : ByteArray} {p s : Nat} {x : α} (h : m c p = .ok (x, s)) : (m >>= f) c p = f x c s := by
  have e : (m >>= f) c p = Except.bind (m c p) (fun r => f r.1 c r.2) := rfl
  rw [e, h]
  rfl
theorem u2_at {c : ByteArray} {p x y : Nat} (h : Bt c p x) (h2 : Bt c (p + 1) y) : (Reader.u2 : Decoder Nat) c p = .ok (x * 256 + y, p + 1 + 1) := by
  unfold Reader.u2
  rw [bind_at (u1_at h), bind_at (u1_at h2)]
  rfl
theorem s1_at {c : ByteArray} {p x : Nat} (h : Bt c p x) : (Reader.s1 : Decoder Int) c p = .ok (Reader.signed 8 x, p + 1) := by
  unfold Reader.s1
  rw [map_eq_pure_bind, bind_at (u1_at h)]
  rfl
theorem s2_at {c : ByteArray} {p x y : Nat} (h : Bt c p x) (h2 : Bt c (p + 1) y) : (Reader.s2 : Decoder Int) c p = .ok (Reader.signed 16 (x * 256 + y), p + 1 + 1) := by
  unfold Reader.s2
  rw [map_eq_pure_bind, bind_at (u2_at h h2)]
  rfl
theorem decode_at {c : ByteArray} {p k : Nat} {i : Instr} (h : Decoder.instr p c p = .ok (i, p + k)) : decode c p = .ok (i, k) := by
  have h : Reader.runAt (Decoder.instr p) c p = .ok (i, p + k) := h
  unfold decode
  rw [h]
  show Except.ok (i, p + k - p) = _
  rw [Nat.add_sub_cancel_left]
theorem k42 {c : ByteArray} {N p : Nat} (hc : CodeIs c N) (e : (Nat.ble 2 (N >>> (8 * p)) && Nat.beq ((N >>> (8 * p)) % 256) 42) = true) : decode c p = .ok (.aload_n 0, 1) := decode_at (by unfold Decoder.instr; exact (bind_at (u1_at (hc.b1 e))).trans rfl)
theorem k183 {c : ByteArray} {N p : Nat} (hc : CodeIs c N) {y z v : Nat} (e : (Nat.ble 131072 (N >>> (8 * p)) && (Nat.beq ((N >>> (8 * p)) % 256) 183 && (Nat.beq ((N >>> (8 * p)) / 256 % 256) y && Nat.beq ((N >>> (8 * p)) / 65536 % 256) z))) = true) (hv : y * 256 + z = v) : decode c p = .ok (.invokespecial v, 3) := decode_at (by unfold Decoder.instr; exact (bind_at (u1_at (hc.b3 e).1)).trans ((bind_at (u2_at (hc.b3 e).2.1 (hc.b3 e).2.2)).trans (by rw [hv]; rfl)))
theorem k16 {c : ByteArray} {N p : Nat} (hc : CodeIs c N) {y : Nat} {v : Int} (e : (Nat.ble 512 (N >>> (8 * p)) && (Nat.beq ((N >>> (8 * p)) % 256) 16 && Nat.beq ((N >>> (8 * p)) / 256 % 256) y)) = true) (hv : Reader.signed 8 y = v) : decode c p = .ok (.bipush v, 2) := decode_at (by unfold Decoder.instr; exact (bind_at (u1_at (hc.b2 e).1)).trans ((bind_at (s1_at (hc.b2 e).2)).trans (by rw [hv]; rfl)))
theorem k188_10 {c : ByteArray} {N p : Nat} (hc : CodeIs c N) (e : (Nat.ble 512 (N >>> (8 * p)) && (Nat.beq ((N >>> (8 * p)) % 256) 188 && Nat.beq ((N >>> (8 * p)) / 256 % 256) 10)) = true) : decode c p = .ok (.newarray .int, 2) := decode_at (by unfold Decoder.instr; exact (bind_at (u1_at (hc.b2 e).1)).trans ((bind_at (u1_at (hc.b2 e).2)).trans rfl))
theorem k181 {c : ByteArray} {N p : Nat} (hc : CodeIs c N) {y z v : Nat} (e : (Nat.ble 131072 (N >>> (8 * p)) && (Nat.beq ((N >>> (8 * p)) % 256) 181 && (Nat.beq ((N >>> (8 * p)) / 256 % 256) y && Nat.beq ((N >>> (8 * p)) / 65536 % 256) z))) = true) (hv : y * 256 + z = v) : decode c p = .ok (.putfield v, 3) := decode_at (by unfold Decoder.instr; exact (bind_at (u1_at (hc.b3 e).1)).trans ((bind_at (u2_at (hc.b3 e).2.1 (hc.b3 e).2.2)).trans (by rw [hv]; rfl)))
theorem k188_11 {c : ByteArray} {N p : Nat} (hc : CodeIs c N) (e : (Nat.ble 512 (N >>> (8 * p)) && (Nat.beq ((N >>> (8 * p)) % 256) 188 && Nat.beq ((N >>> (8 * p)) / 256 % 256) 11)) = true) : decode c p = .ok (.newarray .long, 2) := decode_at (by unfold Decoder.instr; exact (bind_at (u1_at (hc.b2 e).1)).trans ((bind_at (u1_at (hc.b2 e).2)).trans rfl))
theorem k188_4 {c : ByteArray} {N p : Nat} (hc : CodeIs c N) (e : (Nat.ble 512 (N >>> (8 * p)) && (Nat.beq ((N >>> (8 * p)) % 256) 188 && Nat.beq ((N >>> (8 * p)) / 256 % 256) 4)) = true) : decode c p = .ok (.newarray .boolean, 2) := decode_at (by unfold Decoder.instr; exact (bind_at (u1_at (hc.b2 e).1)).trans ((bind_at (u1_at (hc.b2 e).2)).trans rfl))
theorem k43 {c : ByteArray} {N p : Nat} (hc : CodeIs c N) (e : (Nat.ble 2 (N >>> (8 * p)) && Nat.beq ((N >>> (8 * p)) % 256) 43) = true) : decode c p = .ok (.aload_n 1, 1) := decode_at (by unfold Decoder.instr; exact (bind_at (u1_at (hc.b1 e))).trans rfl)
theorem k44 {c : ByteArray} {N p : Nat} (hc : CodeIs c N) (e : (Nat.ble 2 (N >>> (8 * p)) && Nat.beq ((N >>> (8 * p)) % 256) 44) = true) : decode c p = .ok (.aload_n 2, 1) := decode_at (by unfold Decoder.instr; exact (bind_at (u1_at (hc.b1 e))).trans rfl)
theorem k45 {c : ByteArray} {N p : Nat} (hc : CodeIs c N) (e : (Nat.ble 2 (N >>> (8 * p)) && Nat.beq ((N >>> (8 * p)) % 256) 45) = true) : decode c p = .ok (.aload_n 3, 1) := decode_at (by unfold Decoder.instr; exact (bind_at (u1_at (hc.b1 e))).trans rfl)
theorem k25 {c : ByteArray} {N p : Nat} (hc : CodeIs c N) {y : Nat} (e : (Nat.ble 512 (N >>> (8 * p)) && (Nat.beq ((N >>> (8 * p)) % 256) 25 && Nat.beq ((N >>> (8 * p)) / 256 % 256) y)) = true) : decode c p = .ok (.aload y, 2) := decode_at (by unfold Decoder.instr; exact (bind_at (u1_at (hc.b2 e).1)).trans ((bind_at (u1_at (hc.b2 e).2)).trans rfl))
theorem k177 {c : ByteArray} {N p : Nat} (hc : CodeIs c N) (e : (Nat.ble 2 (N >>> (8 * p)) && Nat.beq ((N >>> (8 * p)) % 256) 177) = true) : decode c p = .ok (.return_, 1) := decode_at (by unfold Decoder.instr; exact (bind_at (u1_at (hc.b1 e))).trans rfl)
theorem k180 {c : ByteArray} {N p : Nat} (hc : CodeIs c N) {y z v : Nat} (e : (Nat.ble 131072 (N >>> (8 * p)) && (Nat.beq ((N >>> (8 * p)) % 256) 180 && (Nat.beq ((N >>> (8 * p)) / 256 % 256) y && Nat.beq ((N >>> (8 * p)) / 65536 % 256) z))) = true) (hv : y * 256 + z = v) : decode c p = .ok (.getfield v, 3) := decode_at (by unfold Decoder.instr; exact (bind_at (u1_at (hc.b3 e).1)).trans ((bind_at (u2_at (hc.b3 e).2.1 (hc.b3 e).2.2)).trans (by rw [hv]; rfl)))
theorem k172 {c : ByteArray} {N p : Nat} (hc : CodeIs c N) (e : (Nat.ble 2 (N >>> (8 * p)) && Nat.beq ((N >>> (8 * p)) % 256) 172) = true) : decode c p = .ok (.ireturn, 1) := decode_at (by unfold Decoder.instr; exact (bind_at (u1_at (hc.b1 e))).trans rfl)
theorem k27 {c : ByteArray} {N p : Nat} (hc : CodeIs c N) (e : (Nat.ble 2 (N >>> (8 * p)) && Nat.beq ((N >>> (8 * p)) % 256) 27) = true) : decode c p = .ok (.iload_n 1, 1) := decode_at (by unfold Decoder.instr; exact (bind_at (u1_at (hc.b1 e))).trans rfl)
theorem k182 {c : ByteArray} {N p : Nat} (hc : CodeIs c N) {y z v : Nat} (e : (Nat.ble 131072 (N >>> (8 * p)) && (Nat.beq ((N >>> (8 * p)) % 256) 182 && (Nat.beq ((N >>> (8 * p)) / 256 % 256) y && Nat.beq ((N >>> (8 * p)) / 65536 % 256) z))) = true) (hv : y * 256 + z = v) : decode c p = .ok (.invokevirtual v, 3) := decode_at (by unfold Decoder.instr; exact (bind_at (u1_at (hc.b3 e).1)).trans ((bind_at (u2_at (hc.b3 e).2.1 (hc.b3 e).2.2)).trans (by rw [hv]; rfl)))
theorem k62 {c : ByteArray} {N p : Nat} (hc : CodeIs c N) (e : (Nat.ble 2 (N >>> (8 * p)) && Nat.beq ((N >>> (8 * p)) % 256) 62) = true) : decode c p = .ok (.istore_n 3, 1) := decode_at (by unfold Decoder.instr; exact (bind_at (u1_at (hc.b1 e))).trans rfl)
theorem k29 {c : ByteArray} {N p : Nat} (hc : CodeIs c N) (e : (Nat.ble 2 (N >>> (8 * p)) && Nat.beq ((N >>> (8 * p)) % 256) 29) = true) : decode c p = .ok (.iload_n 3, 1) := decode_at (by unfold Decoder.instr; exact (bind_at (u1_at (hc.b1 e))).trans rfl)
theorem k2 {c : ByteArray} {N p : Nat} (hc : CodeIs c N) (e : (Nat.ble 2 (N >>> (8 * p)) && Nat.beq ((N >>> (8 * p)) % 256) 2) = true) : decode c p = .ok (.iconst (-1), 1) := decode_at (by unfold Decoder.instr; exact (bind_at (u1_at (hc.b1 e))).trans rfl)
theorem k160 {c : ByteArray} {N p : Nat} (hc : CodeIs c N) {y z : Nat} {v : Int} (e : (Nat.ble 131072 (N >>> (8 * p)) && (Nat.beq ((N >>> (8 * p)) % 256) 160 && (Nat.beq ((N >>> (8 * p)) / 256 % 256) y && Nat.beq ((N >>> (8 * p)) / 65536 % 256) z))) = true) (hv : Reader.signed 16 (y * 256 + z) = v) : decode c p = .ok (.if_icmp .ne v, 3) := decode_at (by unfold Decoder.instr; exact (bind_at (u1_at (hc.b3 e).1)).trans ((bind_at (s2_at (hc.b3 e).2.1 (hc.b3 e).2.2)).trans (by rw [hv]; rfl)))
theorem k161 {c : ByteArray} {N p : Nat} (hc : CodeIs c N) {y z : Nat} {v : Int} (e : (Nat.ble 131072 (N >>> (8 * p)) && (Nat.beq ((N >>> (8 * p)) % 256) 161 && (Nat.beq ((N >>> (8 * p)) / 256 % 256) y && Nat.beq ((N >>> (8 * p)) / 65536 % 256) z))) = true) (hv : Reader.signed 16 (y * 256 + z) = v) : decode c p = .ok (.if_icmp .lt v, 3) := decode_at (by unfold Decoder.instr; exact (bind_at (u1_at (hc.b3 e).1)).trans ((bind_at (s2_at (hc.b3 e).2.1 (hc.b3 e).2.2)).trans (by rw [hv]; rfl)))
theorem k3 {c : ByteArray} {N p : Nat} (hc : CodeIs c N) (e : (Nat.ble 2 (N >>> (8 * p)) && Nat.beq ((N >>> (8 * p)) % 256) 3) = true) : decode c p = .ok (.iconst 0, 1) := decode_at (by unfold Decoder.instr; exact (bind_at (u1_at (hc.b1 e))).trans rfl)
theorem k79 {c : ByteArray} {N p : Nat} (hc : CodeIs c N) (e : (Nat.ble 2 (N >>> (8 * p)) && Nat.beq ((N >>> (8 * p)) % 256) 79) = true) : decode c p = .ok (.iastore, 1) := decode_at (by unfold Decoder.instr; exact (bind_at (u1_at (hc.b1 e))).trans rfl)
theorem k89 {c : ByteArray} {N p : Nat} (hc : CodeIs c N) (e : (Nat.ble 2 (N >>> (8 * p)) && Nat.beq ((N >>> (8 * p)) % 256) 89) = true) : decode c p = .ok (.dup, 1) := decode_at (by unfold Decoder.instr; exact (bind_at (u1_at (hc.b1 e))).trans rfl)
theorem k4 {c : ByteArray} {N p : Nat} (hc : CodeIs c N) (e : (Nat.ble 2 (N >>> (8 * p)) && Nat.beq ((N >>> (8 * p)) % 256) 4) = true) : decode c p = .ok (.iconst 1, 1) := decode_at (by unfold Decoder.instr; exact (bind_at (u1_at (hc.b1 e))).trans rfl)
theorem k96 {c : ByteArray} {N p : Nat} (hc : CodeIs c N) (e : (Nat.ble 2 (N >>> (8 * p)) && Nat.beq ((N >>> (8 * p)) % 256) 96) = true) : decode c p = .ok (.iadd, 1) := decode_at (by unfold Decoder.instr; exact (bind_at (u1_at (hc.b1 e))).trans rfl)
theorem k46 {c : ByteArray} {N p : Nat} (hc : CodeIs c N) (e : (Nat.ble 2 (N >>> (8 * p)) && Nat.beq ((N >>> (8 * p)) % 256) 46) = true) : decode c p = .ok (.iaload, 1) := decode_at (by unfold Decoder.instr; exact (bind_at (u1_at (hc.b1 e))).trans rfl)
theorem k7 {c : ByteArray} {N p : Nat} (hc : CodeIs c N) (e : (Nat.ble 2 (N >>> (8 * p)) && Nat.beq ((N >>> (8 * p)) % 256) 7) = true) : decode c p = .ok (.iconst 4, 1) := decode_at (by unfold Decoder.instr; exact (bind_at (u1_at (hc.b1 e))).trans rfl)
theorem k162 {c : ByteArray} {N p : Nat} (hc : CodeIs c N) {y z : Nat} {v : Int} (e : (Nat.ble 131072 (N >>> (8 * p)) && (Nat.beq ((N >>> (8 * p)) % 256) 162 && (Nat.beq ((N >>> (8 * p)) / 256 % 256) y && Nat.beq ((N >>> (8 * p)) / 65536 % 256) z))) = true) (hv : Reader.signed 16 (y * 256 + z) = v) : decode c p = .ok (.if_icmp .ge v, 3) := decode_at (by unfold Decoder.instr; exact (bind_at (u1_at (hc.b3 e).1)).trans ((bind_at (s2_at (hc.b3 e).2.1 (hc.b3 e).2.2)).trans (by rw [hv]; rfl)))
theorem k28 {c : ByteArray} {N p : Nat} (hc : CodeIs c N) (e : (Nat.ble 2 (N >>> (8 * p)) && Nat.beq ((N >>> (8 * p)) % 256) 28) = true) : decode c p = .ok (.iload_n 2, 1) := decode_at (by unfold Decoder.instr; exact (bind_at (u1_at (hc.b1 e))).trans rfl)
theorem k153 {c : ByteArray} {N p : Nat} (hc : CodeIs c N) {y z : Nat} {v : Int} (e : (Nat.ble 131072 (N >>> (8 * p)) && (Nat.beq ((N >>> (8 * p)) % 256) 153 && (Nat.beq ((N >>> (8 * p)) / 256 % 256) y && Nat.beq ((N >>> (8 * p)) / 65536 % 256) z))) = true) (hv : Reader.signed 16 (y * 256 + z) = v) : decode c p = .ok (.ifCond .eq v, 3) := decode_at (by unfold Decoder.instr; exact (bind_at (u1_at (hc.b3 e).1)).trans ((bind_at (s2_at (hc.b3 e).2.1 (hc.b3 e).2.2)).trans (by rw [hv]; rfl)))
theorem k104 {c : ByteArray} {N p : Nat} (hc : CodeIs c N) (e : (Nat.ble 2 (N >>> (8 * p)) && Nat.beq ((N >>> (8 * p)) % 256) 104) = true) : decode c p = .ok (.imul, 1) := decode_at (by unfold Decoder.instr; exact (bind_at (u1_at (hc.b1 e))).trans rfl)
theorem k92 {c : ByteArray} {N p : Nat} (hc : CodeIs c N) (e : (Nat.ble 2 (N >>> (8 * p)) && Nat.beq ((N >>> (8 * p)) % 256) 92) = true) : decode c p = .ok (.dup2, 1) := decode_at (by unfold Decoder.instr; exact (bind_at (u1_at (hc.b1 e))).trans rfl)
theorem k47 {c : ByteArray} {N p : Nat} (hc : CodeIs c N) (e : (Nat.ble 2 (N >>> (8 * p)) && Nat.beq ((N >>> (8 * p)) % 256) 47) = true) : decode c p = .ok (.laload, 1) := decode_at (by unfold Decoder.instr; exact (bind_at (u1_at (hc.b1 e))).trans rfl)
theorem k10 {c : ByteArray} {N p : Nat} (hc : CodeIs c N) (e : (Nat.ble 2 (N >>> (8 * p)) && Nat.beq ((N >>> (8 * p)) % 256) 10) = true) : decode c p = .ok (.lconst 1, 1) := decode_at (by unfold Decoder.instr; exact (bind_at (u1_at (hc.b1 e))).trans rfl)
theorem k121 {c : ByteArray} {N p : Nat} (hc : CodeIs c N) (e : (Nat.ble 2 (N >>> (8 * p)) && Nat.beq ((N >>> (8 * p)) % 256) 121) = true) : decode c p = .ok (.lshl, 1) := decode_at (by unfold Decoder.instr; exact (bind_at (u1_at (hc.b1 e))).trans rfl)
theorem k129 {c : ByteArray} {N p : Nat} (hc : CodeIs c N) (e : (Nat.ble 2 (N >>> (8 * p)) && Nat.beq ((N >>> (8 * p)) % 256) 129) = true) : decode c p = .ok (.lor, 1) := decode_at (by unfold Decoder.instr; exact (bind_at (u1_at (hc.b1 e))).trans rfl)
theorem k80 {c : ByteArray} {N p : Nat} (hc : CodeIs c N) (e : (Nat.ble 2 (N >>> (8 * p)) && Nat.beq ((N >>> (8 * p)) % 256) 80) = true) : decode c p = .ok (.lastore, 1) := decode_at (by unfold Decoder.instr; exact (bind_at (u1_at (hc.b1 e))).trans rfl)
theorem k60 {c : ByteArray} {N p : Nat} (hc : CodeIs c N) (e : (Nat.ble 2 (N >>> (8 * p)) && Nat.beq ((N >>> (8 * p)) % 256) 60) = true) : decode c p = .ok (.istore_n 1, 1) := decode_at (by unfold Decoder.instr; exact (bind_at (u1_at (hc.b1 e))).trans rfl)
theorem k61 {c : ByteArray} {N p : Nat} (hc : CodeIs c N) (e : (Nat.ble 2 (N >>> (8 * p)) && Nat.beq ((N >>> (8 * p)) % 256) 61) = true) : decode c p = .ok (.istore_n 2, 1) := decode_at (by unfold Decoder.instr; exact (bind_at (u1_at (hc.b1 e))).trans rfl)
theorem k154 {c : ByteArray} {N p : Nat} (hc : CodeIs c N) {y z : Nat} {v : Int} (e : (Nat.ble 131072 (N >>> (8 * p)) && (Nat.beq ((N >>> (8 * p)) % 256) 154 && (Nat.beq ((N >>> (8 * p)) / 256 % 256) y && Nat.beq ((N >>> (8 * p)) / 65536 % 256) z))) = true) (hv : Reader.signed 16 (y * 256 + z) = v) : decode c p = .ok (.ifCond .ne v, 3) := decode_at (by unfold Decoder.instr; exact (bind_at (u1_at (hc.b3 e).1)).trans ((bind_at (s2_at (hc.b3 e).2.1 (hc.b3 e).2.2)).trans (by rw [hv]; rfl)))
theorem k132 {c : ByteArray} {N p : Nat} (hc : CodeIs c N) {y z : Nat} {v : Int} (e : (Nat.ble 131072 (N >>> (8 * p)) && (Nat.beq ((N >>> (8 * p)) % 256) 132 && (Nat.beq ((N >>> (8 * p)) / 256 % 256) y && Nat.beq ((N >>> (8 * p)) / 65536 % 256) z))) = true) (hv : Reader.signed 8 z = v) : decode c p = .ok (.iinc y v, 3) := decode_at (by unfold Decoder.instr; exact (bind_at (u1_at (hc.b3 e).1)).trans ((bind_at (u1_at (hc.b3 e).2.1)).trans ((bind_at (s1_at (hc.b3 e).2.2)).trans (by rw [hv]; rfl))))
theorem k167 {c : ByteArray} {N p : Nat} (hc : CodeIs c N) {y z : Nat} {v : Int} (e : (Nat.ble 131072 (N >>> (8 * p)) && (Nat.beq ((N >>> (8 * p)) % 256) 167 && (Nat.beq ((N >>> (8 * p)) / 256 % 256) y && Nat.beq ((N >>> (8 * p)) / 65536 % 256) z))) = true) (hv : Reader.signed 16 (y * 256 + z) = v) : decode c p = .ok (.goto v, 3) := decode_at (by unfold Decoder.instr; exact (bind_at (u1_at (hc.b3 e).1)).trans ((bind_at (s2_at (hc.b3 e).2.1 (hc.b3 e).2.2)).trans (by rw [hv]; rfl)))
theorem k18 {c : ByteArray} {N p : Nat} (hc : CodeIs c N) {y : Nat} (e : (Nat.ble 512 (N >>> (8 * p)) && (Nat.beq ((N >>> (8 * p)) % 256) 18 && Nat.beq ((N >>> (8 * p)) / 256 % 256) y)) = true) : decode c p = .ok (.ldc y, 2) := decode_at (by unfold Decoder.instr; exact (bind_at (u1_at (hc.b2 e).1)).trans ((bind_at (u1_at (hc.b2 e).2)).trans rfl))
theorem k127 {c : ByteArray} {N p : Nat} (hc : CodeIs c N) (e : (Nat.ble 2 (N >>> (8 * p)) && Nat.beq ((N >>> (8 * p)) % 256) 127) = true) : decode c p = .ok (.land, 1) := decode_at (by unfold Decoder.instr; exact (bind_at (u1_at (hc.b1 e))).trans rfl)
theorem k9 {c : ByteArray} {N p : Nat} (hc : CodeIs c N) (e : (Nat.ble 2 (N >>> (8 * p)) && Nat.beq ((N >>> (8 * p)) % 256) 9) = true) : decode c p = .ok (.lconst 0, 1) := decode_at (by unfold Decoder.instr; exact (bind_at (u1_at (hc.b1 e))).trans rfl)
theorem k148 {c : ByteArray} {N p : Nat} (hc : CodeIs c N) (e : (Nat.ble 2 (N >>> (8 * p)) && Nat.beq ((N >>> (8 * p)) % 256) 148) = true) : decode c p = .ok (.lcmp, 1) := decode_at (by unfold Decoder.instr; exact (bind_at (u1_at (hc.b1 e))).trans rfl)
theorem k156 {c : ByteArray} {N p : Nat} (hc : CodeIs c N) {y z : Nat} {v : Int} (e : (Nat.ble 131072 (N >>> (8 * p)) && (Nat.beq ((N >>> (8 * p)) % 256) 156 && (Nat.beq ((N >>> (8 * p)) / 256 % 256) y && Nat.beq ((N >>> (8 * p)) / 65536 % 256) z))) = true) (hv : Reader.signed 16 (y * 256 + z) = v) : decode c p = .ok (.ifCond .ge v, 3) := decode_at (by unfold Decoder.instr; exact (bind_at (u1_at (hc.b3 e).1)).trans ((bind_at (s2_at (hc.b3 e).2.1 (hc.b3 e).2.2)).trans (by rw [hv]; rfl)))
theorem k112 {c : ByteArray} {N p : Nat} (hc : CodeIs c N) (e : (Nat.ble 2 (N >>> (8 * p)) && Nat.beq ((N >>> (8 * p)) % 256) 112) = true) : decode c p = .ok (.irem, 1) := decode_at (by unfold Decoder.instr; exact (bind_at (u1_at (hc.b1 e))).trans rfl)
theorem k108 {c : ByteArray} {N p : Nat} (hc : CodeIs c N) (e : (Nat.ble 2 (N >>> (8 * p)) && Nat.beq ((N >>> (8 * p)) % 256) 108) = true) : decode c p = .ok (.idiv, 1) := decode_at (by unfold Decoder.instr; exact (bind_at (u1_at (hc.b1 e))).trans rfl)
theorem k100 {c : ByteArray} {N p : Nat} (hc : CodeIs c N) (e : (Nat.ble 2 (N >>> (8 * p)) && Nat.beq ((N >>> (8 * p)) % 256) 100) = true) : decode c p = .ok (.isub, 1) := decode_at (by unfold Decoder.instr; exact (bind_at (u1_at (hc.b1 e))).trans rfl)
theorem k155 {c : ByteArray} {N p : Nat} (hc : CodeIs c N) {y z : Nat} {v : Int} (e : (Nat.ble 131072 (N >>> (8 * p)) && (Nat.beq ((N >>> (8 * p)) % 256) 155 && (Nat.beq ((N >>> (8 * p)) / 256 % 256) y && Nat.beq ((N >>> (8 * p)) / 65536 % 256) z))) = true) (hv : Reader.signed 16 (y * 256 + z) = v) : decode c p = .ok (.ifCond .lt v, 3) := decode_at (by unfold Decoder.instr; exact (bind_at (u1_at (hc.b3 e).1)).trans ((bind_at (s2_at (hc.b3 e).2.1 (hc.b3 e).2.2)).trans (by rw [hv]; rfl)))
theorem k51 {c : ByteArray} {N p : Nat} (hc : CodeIs c N) (e : (Nat.ble 2 (N >>> (8 * p)) && Nat.beq ((N >>> (8 * p)) % 256) 51) = true) : decode c p = .ok (.baload, 1) := decode_at (by unfold Decoder.instr; exact (bind_at (u1_at (hc.b1 e))).trans rfl)
theorem k190 {c : ByteArray} {N p : Nat} (hc : CodeIs c N) (e : (Nat.ble 2 (N >>> (8 * p)) && Nat.beq ((N >>> (8 * p)) % 256) 190) = true) : decode c p = .ok (.arraylength, 1) := decode_at (by unfold Decoder.instr; exact (bind_at (u1_at (hc.b1 e))).trans rfl)
theorem k84 {c : ByteArray} {N p : Nat} (hc : CodeIs c N) (e : (Nat.ble 2 (N >>> (8 * p)) && Nat.beq ((N >>> (8 * p)) % 256) 84) = true) : decode c p = .ok (.bastore, 1) := decode_at (by unfold Decoder.instr; exact (bind_at (u1_at (hc.b1 e))).trans rfl)
theorem k78 {c : ByteArray} {N p : Nat} (hc : CodeIs c N) (e : (Nat.ble 2 (N >>> (8 * p)) && Nat.beq ((N >>> (8 * p)) % 256) 78) = true) : decode c p = .ok (.astore_n 3, 1) := decode_at (by unfold Decoder.instr; exact (bind_at (u1_at (hc.b1 e))).trans rfl)
theorem k198 {c : ByteArray} {N p : Nat} (hc : CodeIs c N) {y z : Nat} {v : Int} (e : (Nat.ble 131072 (N >>> (8 * p)) && (Nat.beq ((N >>> (8 * p)) % 256) 198 && (Nat.beq ((N >>> (8 * p)) / 256 % 256) y && Nat.beq ((N >>> (8 * p)) / 65536 % 256) z))) = true) (hv : Reader.signed 16 (y * 256 + z) = v) : decode c p = .ok (.ifnull v, 3) := decode_at (by unfold Decoder.instr; exact (bind_at (u1_at (hc.b3 e).1)).trans ((bind_at (s2_at (hc.b3 e).2.1 (hc.b3 e).2.2)).trans (by rw [hv]; rfl)))
theorem k77 {c : ByteArray} {N p : Nat} (hc : CodeIs c N) (e : (Nat.ble 2 (N >>> (8 * p)) && Nat.beq ((N >>> (8 * p)) % 256) 77) = true) : decode c p = .ok (.astore_n 2, 1) := decode_at (by unfold Decoder.instr; exact (bind_at (u1_at (hc.b1 e))).trans rfl)
theorem k54 {c : ByteArray} {N p : Nat} (hc : CodeIs c N) {y : Nat} (e : (Nat.ble 512 (N >>> (8 * p)) && (Nat.beq ((N >>> (8 * p)) % 256) 54 && Nat.beq ((N >>> (8 * p)) / 256 % 256) y)) = true) : decode c p = .ok (.istore y, 2) := decode_at (by unfold Decoder.instr; exact (bind_at (u1_at (hc.b2 e).1)).trans ((bind_at (u1_at (hc.b2 e).2)).trans rfl))
theorem k21 {c : ByteArray} {N p : Nat} (hc : CodeIs c N) {y : Nat} (e : (Nat.ble 512 (N >>> (8 * p)) && (Nat.beq ((N >>> (8 * p)) % 256) 21 && Nat.beq ((N >>> (8 * p)) / 256 % 256) y)) = true) : decode c p = .ok (.iload y, 2) := decode_at (by unfold Decoder.instr; exact (bind_at (u1_at (hc.b2 e).1)).trans ((bind_at (u1_at (hc.b2 e).2)).trans rfl))
theorem k159 {c : ByteArray} {N p : Nat} (hc : CodeIs c N) {y z : Nat} {v : Int} (e : (Nat.ble 131072 (N >>> (8 * p)) && (Nat.beq ((N >>> (8 * p)) % 256) 159 && (Nat.beq ((N >>> (8 * p)) / 256 % 256) y && Nat.beq ((N >>> (8 * p)) / 65536 % 256) z))) = true) (hv : Reader.signed 16 (y * 256 + z) = v) : decode c p = .ok (.if_icmp .eq v, 3) := decode_at (by unfold Decoder.instr; exact (bind_at (u1_at (hc.b3 e).1)).trans ((bind_at (s2_at (hc.b3 e).2.1 (hc.b3 e).2.2)).trans (by rw [hv]; rfl)))
theorem k184 {c : ByteArray} {N p : Nat} (hc : CodeIs c N) {y z v : Nat} (e : (Nat.ble 131072 (N >>> (8 * p)) && (Nat.beq ((N >>> (8 * p)) % 256) 184 && (Nat.beq ((N >>> (8 * p)) / 256 % 256) y && Nat.beq ((N >>> (8 * p)) / 65536 % 256) z))) = true) (hv : y * 256 + z = v) : decode c p = .ok (.invokestatic v, 3) := decode_at (by unfold Decoder.instr; exact (bind_at (u1_at (hc.b3 e).1)).trans ((bind_at (u2_at (hc.b3 e).2.1 (hc.b3 e).2.2)).trans (by rw [hv]; rfl)))
theorem k8 {c : ByteArray} {N p : Nat} (hc : CodeIs c N) (e : (Nat.ble 2 (N >>> (8 * p)) && Nat.beq ((N >>> (8 * p)) % 256) 8) = true) : decode c p = .ok (.iconst 5, 1) := decode_at (by unfold Decoder.instr; exact (bind_at (u1_at (hc.b1 e))).trans rfl)
theorem k17 {c : ByteArray} {N p : Nat} (hc : CodeIs c N) {y z : Nat} {v : Int} (e : (Nat.ble 131072 (N >>> (8 * p)) && (Nat.beq ((N >>> (8 * p)) % 256) 17 && (Nat.beq ((N >>> (8 * p)) / 256 % 256) y && Nat.beq ((N >>> (8 * p)) / 65536 % 256) z))) = true) (hv : Reader.signed 16 (y * 256 + z) = v) : decode c p = .ok (.sipush v, 3) := decode_at (by unfold Decoder.instr; exact (bind_at (u1_at (hc.b3 e).1)).trans ((bind_at (s2_at (hc.b3 e).2.1 (hc.b3 e).2.2)).trans (by rw [hv]; rfl)))
theorem k58 {c : ByteArray} {N p : Nat} (hc : CodeIs c N) {y : Nat} (e : (Nat.ble 512 (N >>> (8 * p)) && (Nat.beq ((N >>> (8 * p)) % 256) 58 && Nat.beq ((N >>> (8 * p)) / 256 % 256) y)) = true) : decode c p = .ok (.astore y, 2) := decode_at (by unfold Decoder.instr; exact (bind_at (u1_at (hc.b2 e).1)).trans ((bind_at (u1_at (hc.b2 e).2)).trans rfl))
theorem k5 {c : ByteArray} {N p : Nat} (hc : CodeIs c N) (e : (Nat.ble 2 (N >>> (8 * p)) && Nat.beq ((N >>> (8 * p)) % 256) 5) = true) : decode c p = .ok (.iconst 2, 1) := decode_at (by unfold Decoder.instr; exact (bind_at (u1_at (hc.b1 e))).trans rfl)
theorem k6 {c : ByteArray} {N p : Nat} (hc : CodeIs c N) (e : (Nat.ble 2 (N >>> (8 * p)) && Nat.beq ((N >>> (8 * p)) % 256) 6) = true) : decode c p = .ok (.iconst 3, 1) := decode_at (by unfold Decoder.instr; exact (bind_at (u1_at (hc.b1 e))).trans rfl)
theorem k199 {c : ByteArray} {N p : Nat} (hc : CodeIs c N) {y z : Nat} {v : Int} (e : (Nat.ble 131072 (N >>> (8 * p)) && (Nat.beq ((N >>> (8 * p)) % 256) 199 && (Nat.beq ((N >>> (8 * p)) / 256 % 256) y && Nat.beq ((N >>> (8 * p)) / 65536 % 256) z))) = true) (hv : Reader.signed 16 (y * 256 + z) = v) : decode c p = .ok (.ifnonnull v, 3) := decode_at (by unfold Decoder.instr; exact (bind_at (u1_at (hc.b3 e).1)).trans ((bind_at (s2_at (hc.b3 e).2.1 (hc.b3 e).2.2)).trans (by rw [hv]; rfl)))
theorem k189 {c : ByteArray} {N p : Nat} (hc : CodeIs c N) {y z v : Nat} (e : (Nat.ble 131072 (N >>> (8 * p)) && (Nat.beq ((N >>> (8 * p)) % 256) 189 && (Nat.beq ((N >>> (8 * p)) / 256 % 256) y && Nat.beq ((N >>> (8 * p)) / 65536 % 256) z))) = true) (hv : y * 256 + z = v) : decode c p = .ok (.anewarray v, 3) := decode_at (by unfold Decoder.instr; exact (bind_at (u1_at (hc.b3 e).1)).trans ((bind_at (u2_at (hc.b3 e).2.1 (hc.b3 e).2.2)).trans (by rw [hv]; rfl)))
theorem k26 {c : ByteArray} {N p : Nat} (hc : CodeIs c N) (e : (Nat.ble 2 (N >>> (8 * p)) && Nat.beq ((N >>> (8 * p)) % 256) 26) = true) : decode c p = .ok (.iload_n 0, 1) := decode_at (by unfold Decoder.instr; exact (bind_at (u1_at (hc.b1 e))).trans rfl)
theorem k164 {c : ByteArray} {N p : Nat} (hc : CodeIs c N) {y z : Nat} {v : Int} (e : (Nat.ble 131072 (N >>> (8 * p)) && (Nat.beq ((N >>> (8 * p)) % 256) 164 && (Nat.beq ((N >>> (8 * p)) / 256 % 256) y && Nat.beq ((N >>> (8 * p)) / 65536 % 256) z))) = true) (hv : Reader.signed 16 (y * 256 + z) = v) : decode c p = .ok (.if_icmp .le v, 3) := decode_at (by unfold Decoder.instr; exact (bind_at (u1_at (hc.b3 e).1)).trans ((bind_at (s2_at (hc.b3 e).2.1 (hc.b3 e).2.2)).trans (by rw [hv]; rfl)))
theorem k83 {c : ByteArray} {N p : Nat} (hc : CodeIs c N) (e : (Nat.ble 2 (N >>> (8 * p)) && Nat.beq ((N >>> (8 * p)) % 256) 83) = true) : decode c p = .ok (.aastore, 1) := decode_at (by unfold Decoder.instr; exact (bind_at (u1_at (hc.b1 e))).trans rfl)
theorem k50 {c : ByteArray} {N p : Nat} (hc : CodeIs c N) (e : (Nat.ble 2 (N >>> (8 * p)) && Nat.beq ((N >>> (8 * p)) % 256) 50) = true) : decode c p = .ok (.aaload, 1) := decode_at (by unfold Decoder.instr; exact (bind_at (u1_at (hc.b1 e))).trans rfl)
theorem k1 {c : ByteArray} {N p : Nat} (hc : CodeIs c N) (e : (Nat.ble 2 (N >>> (8 * p)) && Nat.beq ((N >>> (8 * p)) % 256) 1) = true) : decode c p = .ok (.aconst_null, 1) := decode_at (by unfold Decoder.instr; exact (bind_at (u1_at (hc.b1 e))).trans rfl)
theorem k178 {c : ByteArray} {N p : Nat} (hc : CodeIs c N) {y z v : Nat} (e : (Nat.ble 131072 (N >>> (8 * p)) && (Nat.beq ((N >>> (8 * p)) % 256) 178 && (Nat.beq ((N >>> (8 * p)) / 256 % 256) y && Nat.beq ((N >>> (8 * p)) / 65536 % 256) z))) = true) (hv : y * 256 + z = v) : decode c p = .ok (.getstatic v, 3) := decode_at (by unfold Decoder.instr; exact (bind_at (u1_at (hc.b3 e).1)).trans ((bind_at (u2_at (hc.b3 e).2.1 (hc.b3 e).2.2)).trans (by rw [hv]; rfl)))
theorem k176 {c : ByteArray} {N p : Nat} (hc : CodeIs c N) (e : (Nat.ble 2 (N >>> (8 * p)) && Nat.beq ((N >>> (8 * p)) % 256) 176) = true) : decode c p = .ok (.areturn, 1) := decode_at (by unfold Decoder.instr; exact (bind_at (u1_at (hc.b1 e))).trans rfl)
theorem k163 {c : ByteArray} {N p : Nat} (hc : CodeIs c N) {y z : Nat} {v : Int} (e : (Nat.ble 131072 (N >>> (8 * p)) && (Nat.beq ((N >>> (8 * p)) % 256) 163 && (Nat.beq ((N >>> (8 * p)) / 256 % 256) y && Nat.beq ((N >>> (8 * p)) / 65536 % 256) z))) = true) (hv : Reader.signed 16 (y * 256 + z) = v) : decode c p = .ok (.if_icmp .gt v, 3) := decode_at (by unfold Decoder.instr; exact (bind_at (u1_at (hc.b3 e).1)).trans ((bind_at (s2_at (hc.b3 e).2.1 (hc.b3 e).2.2)).trans (by rw [hv]; rfl)))
theorem k120 {c : ByteArray} {N p : Nat} (hc : CodeIs c N) (e : (Nat.ble 2 (N >>> (8 * p)) && Nat.beq ((N >>> (8 * p)) % 256) 120) = true) : decode c p = .ok (.ishl, 1) := decode_at (by unfold Decoder.instr; exact (bind_at (u1_at (hc.b1 e))).trans rfl)
theorem k126 {c : ByteArray} {N p : Nat} (hc : CodeIs c N) (e : (Nat.ble 2 (N >>> (8 * p)) && Nat.beq ((N >>> (8 * p)) % 256) 126) = true) : decode c p = .ok (.iand, 1) := decode_at (by unfold Decoder.instr; exact (bind_at (u1_at (hc.b1 e))).trans rfl)
theorem k128 {c : ByteArray} {N p : Nat} (hc : CodeIs c N) (e : (Nat.ble 2 (N >>> (8 * p)) && Nat.beq ((N >>> (8 * p)) % 256) 128) = true) : decode c p = .ok (.ior, 1) := decode_at (by unfold Decoder.instr; exact (bind_at (u1_at (hc.b1 e))).trans rfl)
theorem k130 {c : ByteArray} {N p : Nat} (hc : CodeIs c N) (e : (Nat.ble 2 (N >>> (8 * p)) && Nat.beq ((N >>> (8 * p)) % 256) 130) = true) : decode c p = .ok (.ixor, 1) := decode_at (by unfold Decoder.instr; exact (bind_at (u1_at (hc.b1 e))).trans rfl)
theorem k158 {c : ByteArray} {N p : Nat} (hc : CodeIs c N) {y z : Nat} {v : Int} (e : (Nat.ble 131072 (N >>> (8 * p)) && (Nat.beq ((N >>> (8 * p)) % 256) 158 && (Nat.beq ((N >>> (8 * p)) / 256 % 256) y && Nat.beq ((N >>> (8 * p)) / 65536 % 256) z))) = true) (hv : Reader.signed 16 (y * 256 + z) = v) : decode c p = .ok (.ifCond .le v, 3) := decode_at (by unfold Decoder.instr; exact (bind_at (u1_at (hc.b3 e).1)).trans ((bind_at (s2_at (hc.b3 e).2.1 (hc.b3 e).2.2)).trans (by rw [hv]; rfl)))
theorem k157 {c : ByteArray} {N p : Nat} (hc : CodeIs c N) {y z : Nat} {v : Int} (e : (Nat.ble 131072 (N >>> (8 * p)) && (Nat.beq ((N >>> (8 * p)) % 256) 157 && (Nat.beq ((N >>> (8 * p)) / 256 % 256) y && Nat.beq ((N >>> (8 * p)) / 65536 % 256) z))) = true) (hv : Reader.signed 16 (y * 256 + z) = v) : decode c p = .ok (.ifCond .gt v, 3) := decode_at (by unfold Decoder.instr; exact (bind_at (u1_at (hc.b3 e).1)).trans ((bind_at (s2_at (hc.b3 e).2.1 (hc.b3 e).2.2)).trans (by rw [hv]; rfl)))
theorem k122 {c : ByteArray} {N p : Nat} (hc : CodeIs c N) (e : (Nat.ble 2 (N >>> (8 * p)) && Nat.beq ((N >>> (8 * p)) % 256) 122) = true) : decode c p = .ok (.ishr, 1) := decode_at (by unfold Decoder.instr; exact (bind_at (u1_at (hc.b1 e))).trans rfl)
theorem k188_8 {c : ByteArray} {N p : Nat} (hc : CodeIs c N) (e : (Nat.ble 512 (N >>> (8 * p)) && (Nat.beq ((N >>> (8 * p)) % 256) 188 && Nat.beq ((N >>> (8 * p)) / 256 % 256) 8)) = true) : decode c p = .ok (.newarray .byte, 2) := decode_at (by unfold Decoder.instr; exact (bind_at (u1_at (hc.b2 e).1)).trans ((bind_at (u1_at (hc.b2 e).2)).trans rfl))
theorem k145 {c : ByteArray} {N p : Nat} (hc : CodeIs c N) (e : (Nat.ble 2 (N >>> (8 * p)) && Nat.beq ((N >>> (8 * p)) % 256) 145) = true) : decode c p = .ok (.i2b, 1) := decode_at (by unfold Decoder.instr; exact (bind_at (u1_at (hc.b1 e))).trans rfl)
theorem k187 {c : ByteArray} {N p : Nat} (hc : CodeIs c N) {y z v : Nat} (e : (Nat.ble 131072 (N >>> (8 * p)) && (Nat.beq ((N >>> (8 * p)) % 256) 187 && (Nat.beq ((N >>> (8 * p)) / 256 % 256) y && Nat.beq ((N >>> (8 * p)) / 65536 % 256) z))) = true) (hv : y * 256 + z = v) : decode c p = .ok (.new v, 3) := decode_at (by unfold Decoder.instr; exact (bind_at (u1_at (hc.b3 e).1)).trans ((bind_at (u2_at (hc.b3 e).2.1 (hc.b3 e).2.2)).trans (by rw [hv]; rfl)))
theorem k87 {c : ByteArray} {N p : Nat} (hc : CodeIs c N) (e : (Nat.ble 2 (N >>> (8 * p)) && Nat.beq ((N >>> (8 * p)) % 256) 87) = true) : decode c p = .ok (.pop, 1) := decode_at (by unfold Decoder.instr; exact (bind_at (u1_at (hc.b1 e))).trans rfl)
theorem k124 {c : ByteArray} {N p : Nat} (hc : CodeIs c N) (e : (Nat.ble 2 (N >>> (8 * p)) && Nat.beq ((N >>> (8 * p)) % 256) 124) = true) : decode c p = .ok (.iushr, 1) := decode_at (by unfold Decoder.instr; exact (bind_at (u1_at (hc.b1 e))).trans rfl)
theorem k19 {c : ByteArray} {N p : Nat} (hc : CodeIs c N) {y z v : Nat} (e : (Nat.ble 131072 (N >>> (8 * p)) && (Nat.beq ((N >>> (8 * p)) % 256) 19 && (Nat.beq ((N >>> (8 * p)) / 256 % 256) y && Nat.beq ((N >>> (8 * p)) / 65536 % 256) z))) = true) (hv : y * 256 + z = v) : decode c p = .ok (.ldc_w v, 3) := decode_at (by unfold Decoder.instr; exact (bind_at (u1_at (hc.b3 e).1)).trans ((bind_at (u2_at (hc.b3 e).2.1 (hc.b3 e).2.2)).trans (by rw [hv]; rfl)))
theorem k76 {c : ByteArray} {N p : Nat} (hc : CodeIs c N) (e : (Nat.ble 2 (N >>> (8 * p)) && Nat.beq ((N >>> (8 * p)) % 256) 76) = true) : decode c p = .ok (.astore_n 1, 1) := decode_at (by unfold Decoder.instr; exact (bind_at (u1_at (hc.b1 e))).trans rfl)
def NC_cL_law : Nat := 1041474533614266867439428453856864385935963395536279551555647187620558208424222795146916083987852278560434209281408436342955142407496446968851521767441238619785981530099381031629006661413819512527399972656630731737628512110975830604041721425329238776606402718591216784131372891535673118051514873815002800076023955075668073729033094559390606160123125637591704544224622434734208789180087035115497069269533140380919747432748769534800204373745164129578137836491116407178123593844457988385063995040020517548158455231849964216560294331437795095649196398999510819184113378174264248703808131695142609452682937918844495578670512125997725700697314820499607606697057673372956758125563377758220287947189112695586732754508620239002066113526709559071222720710333027264565151310109170327050520451992232596532316154976911118754010808517342069933531669356405099257841610663942098557717137312690536937459591921003920456919693215931527893464679809731946052957015370018652107689136659333851049935315960328726131365976799310128384549239034507982248572427555111737908535746581045465894783441842111652793250227461610147956349121839698791494766255038402324934411412654759225789479839778645359522720250126847175976461963760028264422069766820613835462723393539684812203191381555293735847463711123587632271267242871732214270125827323145935601409961789656730246544991072049775599441437322113004859280336502372232384555695177921378967682985685398113845606481424007636754224350646804507893835860842499580791402090003216003326789943838727711829065529271430508728182171126308610394232430390401769219493083770112636571128053382913927436552511576437938473239778823864064580045041686921199466787272416895464108480076416883940563622288490777215876998633951545687497553772248153204983233180592396892964511931469655840088547412502121581750330217816586942913689328347077268807280535170272175954361293941839286796783835835237259051287638040165624094083595082781595443293446630848225631502513719715427151681616524084825667402953881003649795000080160212907678342798362142382895513432268545974231722434629727921956594714011743917724887704890891496798667391906630828027861035471997697479389597555269407524378508955121992103335407253897038914096840964919500696759151843723924545338173516210906017701938114659522037811894297181692367851399137127557793350324649495597624173566856650507580708275652736865292908584730892688253532511972459685724231142385091452080313183557581262631241103331017719973917443170057779815174068903605736311729713496919208053212535742204651564480484115633283988261771042608196404867816101789184052574972403846925840815891807121225449670582270831683109875768925395950930291198011174465873546743861143144685009840584124164154709778009821703830189485253292061225638618656584369161174046320066196342726898599062965096820948939821128818758902392252093460074144521998816005792267233313513942442802169729466507380587837863605886108528308564431123040362075439743421881813099726003498821866431729840011933694421331410736789411057167463534984828194784138383388553378465291434314368497205216131413962341877736801610629760419410577861247956709814650893352516707450139661323366779720977142503857885516280258618991347479034435282822463404322419418221986934419057434012831916509330620352599743613007852079478924353714381623341855584703459914485905255008297252311090343921797957876693461844115131388508244080321571513062848576176650633809577995113203107606429365333306191418369602879446320836748193165568886961624407196318989582798573879707027584002714600534225417429677890857479798440279406103590533404770363123442688624343624665020009571853706275399767300889458163902737760323559598172970009707225161763433669729855207690184058192400698066213064180805910148518802121294985816067793833315375966400251343040602942444583169990094144078011
theorem hC_cL_law : CodeIs cL_law NC_cL_law := by unfold CodeIs; decide +kernel
def NC_cX0_addPrices : Nat := 276905375957365366416827188440564071177347500980228116089658913562475351849507229096913059417880170371983772182327732509379837133973739559026543530584424556825116237023595976910403091016933006377336822047330158036993319566334849437957161836027778182699825868762457687701133315760157570065900811819
theorem hC_cX0_addPrices : CodeIs cX0_addPrices NC_cX0_addPrices := by unfold CodeIs; decide +kernel
def NC_cX0_arePart : Nat := 625539917009752223178267970911187190420828516824106
theorem hC_cX0_arePart : CodeIs cX0_arePart NC_cX0_arePart := by unfold CodeIs; decide +kernel
def NC_cX0_barByClauses : Nat := 537790062829325763708709763544721716393897298568032356567785595211136930624319346994234010419806255751981695195956505469209893164100700606108777194086855296911011027779722069798613319897540019547259373838211300923284293411628233100850222542321909236937490879920273209592564929540467481589202019017112441714342991985935363190699566819024113614455328860754916565808952870346569069610
theorem hC_cX0_barByClauses : CodeIs cX0_barByClauses NC_cX0_barByClauses := by unfold CodeIs; decide +kernel
def NC_cX0_barOthers : Nat := 15547607889871998393329354554199866216735513411261777542345240364987545726313081030797192080782759986806275
theorem hC_cX0_barOthers : CodeIs cX0_barOthers NC_cX0_barOthers := by unfold CodeIs; decide +kernel
def NC_cX0_choiceOfRow : Nat := 193639253572496024546388249302890804773446160960847653904976480843515080358915
theorem hC_cX0_choiceOfRow : CodeIs cX0_choiceOfRow NC_cX0_choiceOfRow := by unfold CodeIs; decide +kernel
def NC_cX0_choose : Nat := 315394057427152337778317417613722686211731472328230560700096187036038667096132894308433879094619874559899581723332574953618280618793380380
theorem hC_cX0_choose : CodeIs cX0_choose NC_cX0_choose := by unfold CodeIs; decide +kernel
def NC_cX0_chooseOption : Nat := 3288124882145096370055639242946419660118847736585803538865818017362562180964390319146
theorem hC_cX0_chooseOption : CodeIs cX0_chooseOption NC_cX0_chooseOption := by unfold CodeIs; decide +kernel
def NC_cX0_chosen : Nat := 569150378615648806105135671287174181930
theorem hC_cX0_chosen : CodeIs cX0_chosen NC_cX0_chosen := by unfold CodeIs; decide +kernel
def NC_cX0_enter : Nat := 154716866547038677389866712946367199508343699831654372582941143301688701152027333834820487605664790327685188466788313863350426401244507211871532326214229885571285737868778707637706256787170025623602538346518100989566380284714
theorem hC_cX0_enter : CodeIs cX0_enter NC_cX0_enter := by unfold CodeIs; decide +kernel
def NC_cX0_init : Nat := 505951864893062579257582735096111953175477815000478325872388784527023904295033994225827445406822436021430909537033158158147360681912351576011005422445737713756673521844329637578140068729256612509482
theorem hC_cX0_init : CodeIs cX0_init NC_cX0_init := by unfold CodeIs; decide +kernel
def NC_cX0_isOption : Nat := 831491810036103363892995454520784481907794531498311229659551303770210437223477063532035
theorem hC_cX0_isOption : CodeIs cX0_isOption NC_cX0_isOption := by unfold CodeIs; decide +kernel
def NC_cX0_leastPriced : Nat := 160241966538053912189646546780424263903202391481520682
theorem hC_cX0_leastPriced : CodeIs cX0_leastPriced NC_cX0_leastPriced := by unfold CodeIs; decide +kernel
def NC_cX0_mayStand : Nat := 24647938032822720480930938337754198189243350762585133862759512701880814118441455917900873397393266140262740070910852774360832237802137153974546467811879032592841880618
theorem hC_cX0_mayStand : CodeIs cX0_mayStand NC_cX0_mayStand := by unfold CodeIs; decide +kernel
def NC_cX0_part : Nat := 212862726780927434512214986453633087954935530725202770876313124741000492551347526031907626
theorem hC_cX0_part : CodeIs cX0_part NC_cX0_part := by unfold CodeIs; decide +kernel
def NC_cX0_placeOf : Nat := 2954025999252934897593376718612475321644447874778072414878726032522493187
theorem hC_cX0_placeOf : CodeIs cX0_placeOf NC_cX0_placeOf := by unfold CodeIs; decide +kernel
def NC_cX0_priceOfRow : Nat := 16868344797818972015968062739894328968786563633418739250796074060787233479004247219430317061572281290894532848925228035
theorem hC_cX0_priceOfRow : CodeIs cX0_priceOfRow NC_cX0_priceOfRow := by unfold CodeIs; decide +kernel
def NC_cX0_readRow : Nat := 22416795842318920571240288010980924167250675038299923857315562714084542006399533603729013759198653950901902507156108174865279881580602394188001391352519707
theorem hC_cX0_readRow : CodeIs cX0_readRow NC_cX0_readRow := by unfold CodeIs; decide +kernel
def NC_cX0_reckon : Nat := 557142702570485637661857551142721237833082786707492096656143227989535431440702774512321278389185379919988100046966184195448341284316203154047761642880400160767757281045790092091153845676031280394445853472603395
theorem hC_cX0_reckon : CodeIs cX0_reckon NC_cX0_reckon := by unfold CodeIs; decide +kernel
def NC_cX0_size : Nat := 1839101686826
theorem hC_cX0_size : CodeIs cX0_size NC_cX0_size := by unfold CodeIs; decide +kernel
def NC_cX10_enter : Nat := 16879452507915131300663511017114841755584670221276318061172314831134970102182472859499395890171519583067165521797493802
theorem hC_cX10_enter : CodeIs cX10_enter NC_cX10_enter := by unfold CodeIs; decide +kernel
def NC_cX10_formIn : Nat := 2687311004045011045146806138677753219708155318926196389447708
theorem hC_cX10_formIn : CodeIs cX10_formIn NC_cX10_formIn := by unfold CodeIs; decide +kernel
def NC_cX10_has : Nat := 37285084546193613003429220956029562841504539
theorem hC_cX10_has : CodeIs cX10_has NC_cX10_has := by unfold CodeIs; decide +kernel
def NC_cX10_init : Nat := 41478773774492629489066224760164510258907703206911981354
theorem hC_cX10_init : CodeIs cX10_init NC_cX10_init := by unfold CodeIs; decide +kernel
def NC_cX10_isSpelledSo : Nat := 4317391561240006881458161651123801734638369889038975389940522384552555255863467702351136852645185186738982712036019975210
theorem hC_cX10_isSpelledSo : CodeIs cX10_isSpelledSo NC_cX10_isSpelledSo := by unfold CodeIs; decide +kernel
def NC_cX10_isThere : Nat := 193596800930612427858817290574615835283160955549926969901772475968241356586499
theorem hC_cX10_isThere : CodeIs cX10_isThere NC_cX10_isThere := by unfold CodeIs; decide +kernel
def NC_cX10_isVowel : Nat := 234042268908951040801700906141981093637011846925397337655671168019338586797714620644511582816896618522
theorem hC_cX10_isVowel : CodeIs cX10_isVowel NC_cX10_isVowel := by unfold CodeIs; decide +kernel
def NC_cX10_letterIn : Nat := 49582251969123045851280502414394212016118379461361560291527443730501804492888861
theorem hC_cX10_letterIn : CodeIs cX10_letterIn NC_cX10_letterIn := by unfold CodeIs; decide +kernel
def NC_cX10_put : Nat := 73332635680620014111602845979689712823855001596417512071957770065624703046992464650110875264273840182088800145123377996280116739
theorem hC_cX10_put : CodeIs cX10_put NC_cX10_put := by unfold CodeIs; decide +kernel
def NC_cX10_respell : Nat := 2989157201650678078624269527473193939478385647152438640114749725474167850
theorem hC_cX10_respell : CodeIs cX10_respell NC_cX10_respell := by unfold CodeIs; decide +kernel
def NC_cX10_size : Nat := 1838548038698
theorem hC_cX10_size : CodeIs cX10_size NC_cX10_size := by unfold CodeIs; decide +kernel
def NC_cX10_sizeIn : Nat := 756231356872757534734197235846569435761374392379712811760301808775855479850
theorem hC_cX10_sizeIn : CodeIs cX10_sizeIn NC_cX10_sizeIn := by unfold CodeIs; decide +kernel
def NC_cX10_vowelRows : Nat := 29808994598277513810393069257373056578506106436827223746027901548892411045204605467763223798672113481162723949668809867830393734393303171272708774597953644663145878279085292500804790650280746
theorem hC_cX10_vowelRows : CodeIs cX10_vowelRows NC_cX10_vowelRows := by unfold CodeIs; decide +kernel
def NC_cX11_apart : Nat := 212860203563605901582819876140721692463782358942265961915175887686640797547723227035449371
theorem hC_cX11_apart : CodeIs cX11_apart NC_cX11_apart := by unfold CodeIs; decide +kernel
def NC_cX11_asks : Nat := 3450249933785216332282834028002912120664255497954980465530377470380699009879412702551104925836380823769558010772637887552457839616456736351646272072772365773611333239524110370482650648693192088623150232231212963354207816588008340878515757346922648343324811908148671530
theorem hC_cX11_asks : CodeIs cX11_asks NC_cX11_asks := by unfold CodeIs; decide +kernel
def NC_cX11_breach : Nat := 5219269370522333008747097794676849041742067906930003192624244570401394721074775869031140633134275498418713969170493871868444479538792610851238954
theorem hC_cX11_breach : CodeIs cX11_breach NC_cX11_breach := by unfold CodeIs; decide +kernel
def NC_cX11_breaches : Nat := 212937892937858704122599527901998394888332845170084420276397209582718193859913135880713258
theorem hC_cX11_breaches : CodeIs cX11_breaches NC_cX11_breaches := by unfold CodeIs; decide +kernel
def NC_cX11_breaksMeasure : Nat := 72432573891896596484587348573203767324453426243008920653336086868345411964153739607373930108319955745706427854637849786603051548
theorem hC_cX11_breaksMeasure : CodeIs cX11_breaksMeasure NC_cX11_breaksMeasure := by unfold CodeIs; decide +kernel
def NC_cX11_centre : Nat := 9545119458262520917208592166804058685875206171
theorem hC_cX11_centre : CodeIs cX11_centre NC_cX11_centre := by unfold CodeIs; decide +kernel
def NC_cX11_changes : Nat := 1007139485771535425225718520710788552860480060369745983904253781648651331076093619918056730737093539832740754474
theorem hC_cX11_changes : CodeIs cX11_changes NC_cX11_changes := by unfold CodeIs; decide +kernel
def NC_cX11_check : Nat := 832395728330946985837766986224328464203237577258889855453216416713992660138907632966427
theorem hC_cX11_check : CodeIs cX11_check NC_cX11_check := by unfold CodeIs; decide +kernel
def NC_cX11_close : Nat := 42080526300864443196635087576323882128185882391964230664199577179777223471935951030211894185083810124705257963548453029193448757810812548944639938442455847198281861219082804143758657546133795758393088164754637298266941873070429293124698127414134161697298523770304642565283478691271166369815728453085703725156567735333723756919062290126417505465349087474959672602652955248346819259017734967860549630663485076522
theorem hC_cX11_close : CodeIs cX11_close NC_cX11_close := by unfold CodeIs; decide +kernel
def NC_cX11_company : Nat := 2957991503342055811317311585162259106101679826906725030261004045318658843
theorem hC_cX11_company : CodeIs cX11_company NC_cX11_company := by unfold CodeIs; decide +kernel
def NC_cX11_cost : Nat := 193711823458094948093762069089766662863786033889662661620428163651402572280874
theorem hC_cX11_cost : CodeIs cX11_cost NC_cX11_cost := by unfold CodeIs; decide +kernel
def NC_cX11_count : Nat := 853346565817180186209718500004316325876740146522356262613988992867564154901874713733695634899873958744316699907042777592069974585684136033687033859717467921362593842199323512948953658728850744716982689688354560029971472301140548950108020015475085182751568246000349362490412379909687085350863889760838457236178302068090434306296183283218446793182716024135583365385527143358024835815861815526055365768155909679368822033816027652989592138721819
theorem hC_cX11_count : CodeIs cX11_count NC_cX11_count := by unfold CodeIs; decide +kernel
def NC_cX11_differ : Nat := 414313153403574738367786283013552039434601732600987250844098408331332081012155700429056210965802270273354536340654004807168975556060560864503664615675862430387121514795283498
theorem hC_cX11_differ : CodeIs cX11_differ NC_cX11_differ := by unfold CodeIs; decide +kernel
def NC_cX11_distance : Nat := 5546567737722727378708414812352579733150395522701224313920440405724899661314596868681697921647268703340563894439042069554992306617744205841703907947193429201621944045372003939505248022304206207613484432556718841603399484509441759466901591295234228868335402301934999359204955199148106216644674616603882133458652810987126812357674
theorem hC_cX11_distance : CodeIs cX11_distance NC_cX11_distance := by unfold CodeIs; decide +kernel
def NC_cX11_feed : Nat := 257564671509207894373176694500457691954469204197533469966813098339746838734160814705319551346555127946752500479018
theorem hC_cX11_feed : CodeIs cX11_feed NC_cX11_feed := by unfold CodeIs; decide +kernel
def NC_cX11_firstWrongByte : Nat := 604350104705090020850537907462284768541425489057679118638684536315682308581121656940612305517982773618060857704527071655052020586589789969643019275776473206179257618325913596368176941942811948310371263127071012032467909891
theorem hC_cX11_firstWrongByte : CodeIs cX11_firstWrongByte NC_cX11_firstWrongByte := by unfold CodeIs; decide +kernel
def NC_cX11_fixed : Nat := 7897368673071671587882
theorem hC_cX11_fixed : CodeIs cX11_fixed NC_cX11_fixed := by unfold CodeIs; decide +kernel
def NC_cX11_fixedOn : Nat := 160136757252870120233545044242160410978174289625619498
theorem hC_cX11_fixedOn : CodeIs cX11_fixedOn NC_cX11_fixedOn := by unfold CodeIs; decide +kernel
def NC_cX11_holds : Nat := 1217312933431663689025477481182777073604805590876151688806339134224532717920586145026274928128525660893010074954456457700686888494478378
theorem hC_cX11_holds : CodeIs cX11_holds NC_cX11_holds := by unfold CodeIs; decide +kernel
def NC_cX11_init : Nat := 4080127665514588794711535574068511450066215793332778934845326423055745553530604691665748962850611724544961936164993662311787156264552282699178957696180762801974668411739184328177998751652783594435161134265632473437662158341442788810027654885218796226294983994796608213852279585927579646125372487438220457153222297290901850065938712586212804302351187841490931755499539394730317719195808845457735124989145407234948134488646928743029525720133981854336295402830083882
theorem hC_cX11_init : CodeIs cX11_init NC_cX11_init := by unfold CodeIs; decide +kernel
def NC_cX11_isCopy : Nat := 2222364219796276867594343742191999770
theorem hC_cX11_isCopy : CodeIs cX11_isCopy NC_cX11_isCopy := by unfold CodeIs; decide +kernel
def NC_cX11_isDay : Nat := 145644861508568800794674005267158854048538
theorem hC_cX11_isDay : CodeIs cX11_isDay NC_cX11_isDay := by unfold CodeIs; decide +kernel
def NC_cX11_isEdition : Nat := 2222364219796276867594064466238544666
theorem hC_cX11_isEdition : CodeIs cX11_isEdition NC_cX11_isEdition := by unfold CodeIs; decide +kernel
def NC_cX11_isPastDay : Nat := 37285084546193613003435419062038329250847515
theorem hC_cX11_isPastDay : CodeIs cX11_isPastDay NC_cX11_isPastDay := by unfold CodeIs; decide +kernel
def NC_cX11_isRate : Nat := 568925240267846878104178445714183985946
theorem hC_cX11_isRate : CodeIs cX11_isRate NC_cX11_isRate := by unfold CodeIs; decide +kernel
def NC_cX11_isSign : Nat := 568925240267846878104089781096520129306
theorem hC_cX11_isSign : CodeIs cX11_isSign NC_cX11_isSign := by unfold CodeIs; decide +kernel
def NC_cX11_judge : Nat := 7903853856535806522410
theorem hC_cX11_judge : CodeIs cX11_judge NC_cX11_judge := by unfold CodeIs; decide +kernel
def NC_cX11_line : Nat := 6937645214659277983683989301364496452740164193272926028828622475758388441693108139296758206515724369658739083655025527413463914559199117348793531420307663685394350928827146486103299
theorem hC_cX11_line : CodeIs cX11_line NC_cX11_line := by unfold CodeIs; decide +kernel
def NC_cX11_look : Nat := 41041400416142573828008949369954142774398304589606597674
theorem hC_cX11_look : CodeIs cX11_look NC_cX11_look := by unfold CodeIs; decide +kernel
def NC_cX11_missed : Nat := 10494722523325345041355390375002582275033105433951496877098
theorem hC_cX11_missed : CodeIs cX11_missed NC_cX11_missed := by unfold CodeIs; decide +kernel
def NC_cX11_now : Nat := 10494949254921833898833027106106923563837282290773253994523
theorem hC_cX11_now : CodeIs cX11_now NC_cX11_now := by unfold CodeIs; decide +kernel
def NC_cX11_one : Nat := 9550991612180645915817737882143715525914571818
theorem hC_cX11_one : CodeIs cX11_one NC_cX11_one := by unfold CodeIs; decide +kernel
def NC_cX11_option : Nat := 831485170170335553057889318422415450583628762133627735497781401485072554850942797854747
theorem hC_cX11_option : CodeIs cX11_option NC_cX11_option := by unfold CodeIs; decide +kernel
def NC_cX11_plan : Nat := 7903637683753692738602
theorem hC_cX11_plan : CodeIs cX11_plan NC_cX11_plan := by unfold CodeIs; decide +kernel
def NC_cX11_printed : Nat := 164349291056623669844840119834999314435466596147333649971848000521862690320883045650325533915985006048312223788129395394651814053447475719334848213351456405209010354689046551216045577277252113657236947403600558175796132449051312205586548778644101610457327766092925267927855729889691263902201101390951975700384261927965079984157169481087942902139392632646771473644587273191155078583030549255603813746779141162
theorem hC_cX11_printed : CodeIs cX11_printed NC_cX11_printed := by unfold CodeIs; decide +kernel
def NC_cX11_putFour : Nat := 4376065559257231097491612674154899645621989909429402575862119471290042679828222400940786626084820129315771920310018578448
theorem hC_cX11_putFour : CodeIs cX11_putFour NC_cX11_putFour := by unfold CodeIs; decide +kernel
def NC_cX11_quarrel : Nat := 4746897839615788151374634066702900819784578076076969993026049280358156068726800951163556476449651319612779803505534879028394116297770
theorem hC_cX11_quarrel : CodeIs cX11_quarrel NC_cX11_quarrel := by unfold CodeIs; decide +kernel
def NC_cX11_reads : Nat := 257335315252522527617931506535697328443132969615446322212582748076476965957110818381764352648671602973159580539675
theorem hC_cX11_reads : CodeIs cX11_reads NC_cX11_reads := by unfold CodeIs; decide +kernel
def NC_cX11_render : Nat := 38347448520119525196085037476319996872464494903812657019202668546759718834831644181963576524372574387904368095643088833394902532300795357733798826510750043953694508705017960839271412922827556530794963912110081683621155873978101297579335595437469061986613709004939497805359801939372168740293136757600759307144740174077804203432880474689616486875180639493349412276467699482310668847778794921579820074
theorem hC_cX11_render : CodeIs cX11_render NC_cX11_render := by unfold CodeIs; decide +kernel
def NC_cX11_rules : Nat := 1069509258659884328927843733400433961494627627594439461026981723426694188961600889835197537247737777566925771512700019361968724328028302287869508718108645001851686292288437009269261426575693425634841213740935309566505591770534066461397742279387863767189749425690084538316949441776166007339942427
theorem hC_cX11_rules : CodeIs cX11_rules NC_cX11_rules := by unfold CodeIs; decide +kernel
def NC_cX11_scholar : Nat := 2686648965971670810668221714018983037303274285029954890544170
theorem hC_cX11_scholar : CodeIs cX11_scholar NC_cX11_scholar := by unfold CodeIs; decide +kernel
def NC_cX11_signOfAdded : Nat := 234279344362158902505045280453261368309743156697498589452143326859347875607938372267982355537875474973
theorem hC_cX11_signOfAdded : CodeIs cX11_signOfAdded NC_cX11_signOfAdded := by unfold CodeIs; decide +kernel
def NC_cX11_source : Nat := 20388214350378097152392133484344045400797395380215105846710322318622244210678880113963145535818516180221693907705742136278035146831588420006954
theorem hC_cX11_source : CodeIs cX11_source NC_cX11_source := by unfold CodeIs; decide +kernel
def NC_cX11_spell : Nat := 1336162015666378975585692355618899609919435955567665612982656711331271701265631625066795463249920283209255801009650425923422816098329856192949565467
theorem hC_cX11_spell : CodeIs cX11_spell NC_cX11_spell := by unfold CodeIs; decide +kernel
def NC_cX11_syllables : Nat := 10494722523326482292248193158944544206249584781826203890730
theorem hC_cX11_syllables : CodeIs cX11_syllables NC_cX11_syllables := by unfold CodeIs; decide +kernel
def NC_cX11_tapeHas : Nat := 10494818304294687154755061509794016545225404070360252482587
theorem hC_cX11_tapeHas : CodeIs cX11_tapeHas NC_cX11_tapeHas := by unfold CodeIs; decide +kernel
def NC_cX11_tapeHasLetters : Nat := 13950243521985485494587754800161413041147235633315651143131454044412621484640821199133424237827
theorem hC_cX11_tapeHasLetters : CodeIs cX11_tapeHasLetters NC_cX11_tapeHasLetters := by unfold CodeIs; decide +kernel
def NC_cX11_tapeHasSlots : Nat := 5219401852142950091044462611718387173755187499592712270215746972750964625817276749397746213805933821126342043163032326500751892532196797327425027
theorem hC_cX11_tapeHasSlots : CodeIs cX11_tapeHasSlots NC_cX11_tapeHasSlots := by unfold CodeIs; decide +kernel
def NC_cX11_tapeHasTokens : Nat := 11539375095541253388398891457108890940012162496508543944245908025916675
theorem hC_cX11_tapeHasTokens : CodeIs cX11_tapeHasTokens NC_cX11_tapeHasTokens := by unfold CodeIs; decide +kernel
def NC_cX11_token : Nat := 1105223279356907407574249645081206747124233806667029494775562262093496565996148720145140963468536070656695030327530351539242
theorem hC_cX11_token : CodeIs cX11_token NC_cX11_token := by unfold CodeIs; decide +kernel
def NC_cX11_unlike : Nat := 59914274028015615280315453158199227449583094970113347315121950716979109972403529077364339229428425988891
theorem hC_cX11_unlike : CodeIs cX11_unlike NC_cX11_unlike := by unfold CodeIs; decide +kernel
def NC_cX11_verse : Nat := 193782490433369044644412107034731425159329219228823433381205645969435903695643
theorem hC_cX11_verse : CodeIs cX11_verse NC_cX11_verse := by unfold CodeIs; decide +kernel
def NC_cX11_voids : Nat := 3927437440016910204581091414045611283674364369976010450265200303964554583829105196247835129666865211503588394
theorem hC_cX11_voids : CodeIs cX11_voids NC_cX11_voids := by unfold CodeIs; decide +kernel
def NC_cX11_vote : Nat := 5219410412165505883907164321414685022485421223315130555158314924528713668779983214760911060123061633949357957193593967356919467142541869198652458
theorem hC_cX11_vote : CodeIs cX11_vote NC_cX11_vote := by unfold CodeIs; decide +kernel
def NC_cX11_votersOf : Nat := 193856704924463113651907971260985955070401386523437435712047297360062884918314
theorem hC_cX11_votersOf : CodeIs cX11_votersOf NC_cX11_votersOf := by unfold CodeIs; decide +kernel
def NC_cX11_word : Nat := 3927487314978869522172662318981911923917675960541812138917669447429771900526918699257424533290072918042090282
theorem hC_cX11_word : CodeIs cX11_word NC_cX11_word := by unfold CodeIs; decide +kernel
def NC_cX11_wordsFixedThen : Nat := 195676557390339860139113451700015281517207062638781787091461278880483101422634
theorem hC_cX11_wordsFixedThen : CodeIs cX11_wordsFixedThen NC_cX11_wordsFixedThen := by unfold CodeIs; decide +kernel
def NC_cX12_apart : Nat := 376095931092940944107063451240120253055396349846677678259470432546769776527849286864854250669741224321748471413307588873930220500091335940779433790545502009295643
theorem hC_cX12_apart : CodeIs cX12_apart NC_cX12_apart := by unfold CodeIs; decide +kernel
def NC_cX12_areTurnedAlike : Nat := 3571262341628284375542789763099674376740851417423161004229821011766263587501419402180606235588099
theorem hC_cX12_areTurnedAlike : CodeIs cX12_areTurnedAlike NC_cX12_areTurnedAlike := by unfold CodeIs; decide +kernel
def NC_cX12_asks : Nat := 2853979821498034880722450632559968648481184601455395239863684587173847521228003111356564804201954061323741000549551614602869807260292045728926817644532695064154394873452882273556951324641731444291826816640927765146403250070600942634824254233386
theorem hC_cX12_asks : CodeIs cX12_asks NC_cX12_asks := by unfold CodeIs; decide +kernel
def NC_cX12_bars : Nat := 444849513596091991143862399620062948288280708011466260510501765149864341033470656695898035475872058563292674629668983251936695016496027157562480708815509201535240996037212803179663038556575632973943500178793098769923424085024562949421395505609140683641880792652457700904407307378734613556296347020772057771751051536046719336673995638262701696483208145485315
theorem hC_cX12_bars : CodeIs cX12_bars NC_cX12_bars := by unfold CodeIs; decide +kernel
def NC_cX12_bestRow : Nat := 6939228623889508798963771655198731695076417861038432770224366978566243620963596002139485748900742849516398542063308744824189976794163112319785541857194704634379177761931384561286146
theorem hC_cX12_bestRow : CodeIs cX12_bestRow NC_cX12_bestRow := by unfold CodeIs; decide +kernel
def NC_cX12_breach : Nat := 376087993475818620493496652631439891784181562736071696763587867584373446248555049266348262241702154223641444301883883754947592285219445505227261611637845762906922
theorem hC_cX12_breach : CodeIs cX12_breach NC_cX12_breach := by unfold CodeIs; decide +kernel
def NC_cX12_breaches : Nat := 9544894531543810925773498019656073338049403690
theorem hC_cX12_breaches : CodeIs cX12_breaches NC_cX12_breaches := by unfold CodeIs; decide +kernel
def NC_cX12_breachesOf : Nat := 13024285636629317736114135201342211070388685775209031441410252666573727346492183425537042170244528773648574025541227311450483457265414417270203041218107409246005552130703347882102038242832236761015236085081807253096130966084935957185942458601505535834024082633280845597334751174799495578258061837368442318034976763131164313328125368786147500867125453002541993299972060961028324487982697544744432756954996407018161821319269422000700538371
theorem hC_cX12_breachesOf : CodeIs cX12_breachesOf NC_cX12_breachesOf := by unfold CodeIs; decide +kernel
def NC_cX12_centre : Nat := 9545068417231519241436180264006499526218089243
theorem hC_cX12_centre : CodeIs cX12_centre NC_cX12_centre := by unfold CodeIs; decide +kernel
def NC_cX12_changes : Nat := 38321257466178344115994478016493407326869374989601025583836278160909993460381232064984476329694661379809825944943003402194894907690701749161422635417864204466661802821856560567216106421483392654342971703861552874398092947802446835051097772977273722920771663284613377330662398418638345020679007803633995995028880659947289916765792494119625299612864483139887717642223812480440905744461528045039524650
theorem hC_cX12_changes : CodeIs cX12_changes NC_cX12_changes := by unfold CodeIs; decide +kernel
def NC_cX12_check : Nat := 972058029975726612379286098039733805478055031832583215321710341377103672907539719748599505227376747156990717341209373011985926173384593113046014697747461388630587755897062489573976303059294142938447413142016485911511652568787679635897819887487722269303405570573771505069378757460763
theorem hC_cX12_check : CodeIs cX12_check NC_cX12_check := by unfold CodeIs; decide +kernel
def NC_cX12_clause : Nat := 2155858945296478672792538444014308367517307947677815663667515581612577209941861120195364463056477918796444495154709412370330675898415257047631668975958785229136812898702356621017133241755864992274293154712599937941567665126915381188177959847365682290628062058281616990253000055793135815791257971043243162030262508174604813995809165742718217821652756174975183989040112216583710227824634904717723461098321662402339875390506547833137632679130016840699382916154580057301825293913358131069045839043983331941677331899544075806475191095217131031754435568017019681335951078374007974425007849189783212900235894975046094998891415312186267424197057083683865451797352179267695312671981160757231172180466226482178011087365550180324720040441132586
theorem hC_cX12_clause : CodeIs cX12_clause NC_cX12_clause := by unfold CodeIs; decide +kernel
def NC_cX12_close : Nat := 10683979022342158690876376297072187451764881716300208881337005954074508082149893150550854679832245996891478576825676295570416515799031515068139402806151975270309262817321254810753841711022323154465828667259262061074008077346177297497221757996261136988960631561518718551349500806400580320613041858860401827526821585569675203992697813059556611369780524535600825918530928870582050881666522608592697198408605517166177830256281282047317851085315919192462946353361214769203242707039085621399429219236070157507297800105736894067663952885246208437318626018914407436795197482748248959963302360985931738165178660687462614227855114984015328784863605220090894845902192074994093947523379875972653550447009707760628780427520883377878417429408346006631721139206077325572350166384094757737082648887280062134511986708502569466486164920210056936565552816162922769503033582923514885721324712134797640506473757474600849423956601323704729156016391718310386474
theorem hC_cX12_close : CodeIs cX12_close NC_cX12_close := by unfold CodeIs; decide +kernel
def NC_cX12_company : Nat := 24669347415797408797911843632784315141680470495125390397686548847661144552096932813480260393775547500745895937589514415073937454289394848682117036068272030444926645290
theorem hC_cX12_company : CodeIs cX12_company NC_cX12_company := by unfold CodeIs; decide +kernel
def NC_cX12_companyOf : Nat := 54492146053951875365678851341744425654257619219108442221137066288659407385613442995711655171
theorem hC_cX12_companyOf : CodeIs cX12_companyOf NC_cX12_companyOf := by unfold CodeIs; decide +kernel
def NC_cX12_condition : Nat := 20667059958216597067864926293127071974045821199371576221773895361570898397071683096822454801455017099757170239522928522880824261968812173493034
theorem hC_cX12_condition : CodeIs cX12_condition NC_cX12_condition := by unfold CodeIs; decide +kernel
def NC_cX12_copyOf : Nat := 1067794208596647746451292137759498371859036306017767893944598278006828737631600744790422595658226010495725073971414290073689834879793186440775003563004592388144862732199360570593652874977426260693146438067096739176824686062861730216658089029179129265739600187652754273658768585549857114548801578
theorem hC_cX12_copyOf : CodeIs cX12_copyOf NC_cX12_copyOf := by unfold CodeIs; decide +kernel
def NC_cX12_cost : Nat := 49673929961190842819745011864391001325815702777881445312694096683875212763470634
theorem hC_cX12_cost : CodeIs cX12_cost NC_cX12_cost := by unfold CodeIs; decide +kernel
def NC_cX12_costOf : Nat := 54505080343436314721381625491321046289952939188122791133773405288119967551837289580442369283
theorem hC_cX12_costOf : CodeIs cX12_costOf NC_cX12_costOf := by unfold CodeIs; decide +kernel
def NC_cX12_count : Nat := 74337417818620758500058364719820459101675604574242189699338843922084745659379907734298178174614645318960298772790097489561004512589990864847291735092548500720060961200962153609370770622293259942145806339856210833861334268308285667654465840898773324505284998081125655041041324804351396491263531827919428527620061236096551902974520301727120790092428982378682058472011769409660065133566780246045089904057641535681986042274441605214166017754778380269940642882221225306708920522321378563
theorem hC_cX12_count : CodeIs cX12_count NC_cX12_count := by unfold CodeIs; decide +kernel
def NC_cX12_daysBy : Nat := 424496557763111232122061581682133658631062506288783005477468160125568144192809580441210280361192700078758506754723620560597730640623272152297582756696720319496273333784001609771377266586847865322962096861594614878565766917518726532899223037523002951982427908637318157175534785802397385488428826033913829565895161620073865285947694557200054088905890102947480632737349240070754887173218439550682108412992271378496665082545483444158200204100421328611179224659755728120936726618248207076045836228308148428662116364568398549072655402
theorem hC_cX12_daysBy : CodeIs cX12_daysBy NC_cX12_daysBy := by unfold CodeIs; decide +kernel
def NC_cX12_daysOf : Nat := 688058947309756917276767676871508127447782574244379771213385770
theorem hC_cX12_daysOf : CodeIs cX12_daysOf NC_cX12_daysOf := by unfold CodeIs; decide +kernel
def NC_cX12_differ : Nat := 93153816671436788466068791122655413534458660563929550697057598114086247097508770244920241867126035450739945315595001943484986615384963686736176050013027524306850005306142694633474399330708311697142721229712419224849564858846530493306786069404952495829774240523592641153608726898402222942197103167488651946271907670323793562538591263530
theorem hC_cX12_differ : CodeIs cX12_differ NC_cX12_differ := by unfold CodeIs; decide +kernel
def NC_cX12_digit : Nat := 2689348467828720125437088263283248248863560442383611835137562
theorem hC_cX12_digit : CodeIs cX12_digit NC_cX12_digit := by unfold CodeIs; decide +kernel
def NC_cX12_does : Nat := 103541543831858095575512356686382625521492843065127935022293709934641464433877029072515954283294121077092509531594220312153539226996889687296078743591125812708532786365776273283274238532677014757627353050110975551766958423323154167365145737879321890860031646828671234928048814133157639735809094731776498326600738265218029006712949337046905679512604
theorem hC_cX12_does : CodeIs cX12_does NC_cX12_does := by unfold CodeIs; decide +kernel
def NC_cX12_emit : Nat := 314800684553851698813253899654201391851752192214903619029893219928047084581515686137369640548491276889466231267912918675835277148520822314
theorem hC_cX12_emit : CodeIs cX12_emit NC_cX12_emit := by unfold CodeIs; decide +kernel
def NC_cX12_ends : Nat := 14140848945577490550655192402718016033217185470464415280436797394238013453317818824853230302762
theorem hC_cX12_ends : CodeIs cX12_ends NC_cX12_ends := by unfold CodeIs; decide +kernel
def NC_cX12_factor : Nat := 10260997953527948816963158372552617100145129784981638107597794055389093131541877850372882110758423118501698698788662934193727899731805010433009515543656469435400581971935087178100642994491355342407580468388407843180512788741207594
theorem hC_cX12_factor : CodeIs cX12_factor NC_cX12_factor := by unfold CodeIs; decide +kernel
def NC_cX12_fails : Nat := 695917202889120167763861208800694159908863547710264399111662122
theorem hC_cX12_fails : CodeIs cX12_fails NC_cX12_fails := by unfold CodeIs; decide +kernel
def NC_cX12_feed : Nat := 257851193704373013174085093233964957241275913585372218505739416186045136462193339183205168682901157354581377725482
theorem hC_cX12_feed : CodeIs cX12_feed NC_cX12_feed := by unfold CodeIs; decide +kernel
def NC_cX12_fewest : Nat := 13026306856009228424906581445178485811550020538055503642710900704942073292646095095278519326306549412072350643976826541951954259685874447249291946933406870237617528152051958499542770367133102069375729653653129572053785934257216624531238802339648743503856050380358634448475320743591552573105127009731403391143301588493364409257552310987867152896160328520923568664502227407455074243187198311655056866563178314092960580488326978720726072835
theorem hC_cX12_fewest : CodeIs cX12_fewest NC_cX12_fewest := by unfold CodeIs; decide +kernel
def NC_cX12_fixed : Nat := 37284744263840634584045632335392019515317034
theorem hC_cX12_fixed : CodeIs cX12_fixed NC_cX12_fixed := by unfold CodeIs; decide +kernel
def NC_cX12_fixedAt : Nat := 1005202564777247009937190798121378052061134576127410140312027435747422381189997315934212527318020533409502311466
theorem hC_cX12_fixedAt : CodeIs cX12_fixedAt NC_cX12_fixedAt := by unfold CodeIs; decide +kernel
def NC_cX12_fixedOf : Nat := 3571197029162293062154368417977587240376928733349820166268021266466657870874886961588235174427907
theorem hC_cX12_fixedOf : CodeIs cX12_fixedOf NC_cX12_fixedOf := by unfold CodeIs; decide +kernel
def NC_cX12_fixedOn : Nat := 756224455126641921720997014797026387110702896690631253681795265647353404202
theorem hC_cX12_fixedOn : CodeIs cX12_fixedOn NC_cX12_fixedOn := by unfold CodeIs; decide +kernel
def NC_cX12_fixedVerse : Nat := 234041968503180040058945713520260635967941517939496996364540726859542075257086120679836998167890705667
theorem hC_cX12_fixedVerse : CodeIs cX12_fixedVerse NC_cX12_fixedVerse := by unfold CodeIs; decide +kernel
def NC_cX12_goesBack : Nat := 248620415723078516655654794182939509004413173918293631434692527809763168424973999390029731770142763275877745461691107979152055392234652094550065674909548871436165593229948636625364827511118460626710628862102444216058837893492900220985194274890240572601090390183980884362943330116482090
theorem hC_cX12_goesBack : CodeIs cX12_goesBack NC_cX12_goesBack := by unfold CodeIs; decide +kernel
def NC_cX12_goesBehind : Nat := 16293445249703690973195333421756723927073255655814655506124679989110301427359727800030918564733753079595859473471269417258936195055550583969784041579187174717436162936030531477179871081053346570768376089872734497588848466058981677502440242287562561111907524349860337816741963815492400559658
theorem hC_cX12_goesBehind : CodeIs cX12_goesBehind NC_cX12_goesBehind := by unfold CodeIs; decide +kernel
def NC_cX12_goesOn : Nat := 3665133354571259170409203842739538976010075353949222132372295657477680188400620168905955884824539978489010342615836171753529532003244845810072789538347948587228731762843494895803743592644492781011964426901392758287461650517989982657728262996159590915468774440537137565475133709441131558822555797833440854755076628524859664271293670078696020969411392402207797734017028842385902135786195713558386905464532549444267079589798975541577869278047385960953386
theorem hC_cX12_goesOn : CodeIs cX12_goesOn NC_cX12_goesOn := by unfold CodeIs; decide +kernel
def NC_cX12_goesWithout : Nat := 3793601713335641833045426997456960315259426824757632885822108331017661003878647075772297052461272175474998891479804269345687732206140549758006114649842544769764745468109978901954065817333608767042058048081720874686089899466487997536256799442815668903753339457658108279881704977450
theorem hC_cX12_goesWithout : CodeIs cX12_goesWithout NC_cX12_goesWithout := by unfold CodeIs; decide +kernel
def NC_cX12_has : Nat := 2222364219796276867593498647120714522
theorem hC_cX12_has : CodeIs cX12_has NC_cX12_has := by unfold CodeIs; decide +kernel
def NC_cX12_here : Nat := 11539174756971426749876399190020641568108700471523925536170213046858794
theorem hC_cX12_here : CodeIs cX12_here NC_cX12_here := by unfold CodeIs; decide +kernel
def NC_cX12_holds : Nat := 5738647361385807197111373932538101787076808702598808071168970578703724989441970436105076503100007609664837683955222686103861931329847264444037826392074355483
theorem hC_cX12_holds : CodeIs cX12_holds NC_cX12_holds := by unfold CodeIs; decide +kernel
def NC_cX12_init : Nat := 23728933337250989384537112798071645736296026780605364817255160666509522234875747304763562423471072056384665869044099749831300324945196184835475138902265891731147384562792848067307319525152274911848384357245938827853075597729497493100718815484662954165735235761892806359155736030390835783875627556146879114586040871615079773246500115973203001988197558526635809016629435261822365381638286708151560178014127802074053074608680279470954093939888210534413774490549375174160706709086645167737175615759874394047957612268896873157841798193894150268513310194050304733464207796482137136996476869486122472754094889721376387152603755208809254466383047536517923868741078418745039408925337690617851579119838679154807956540107651498752590814685083129651351676066622394362147336567654614946428569620124095331488181573920656045090098364248629639435901229960737739920982576630547936569818717743042755856220573639884372542531583474140875511273060939098348420383738244667918862427637442731313214272118410171171100026632637222235858705828177440548786055961111249931785020310626414387266102366152345448627342049188456095791305619897871740783734241404535405814038874765149767032233235996462111406491472170479478246704262728795839139430707077398880148220328458435155569620398475146175197792448118390197078400384189824667658489360277622500862854349966110511083513955775120155422795503214195942976650707496809314090
theorem hC_cX12_init : CodeIs cX12_init NC_cX12_init := by unfold CodeIs; decide +kernel
def NC_cX12_isAhead : Nat := 1336154679818320573644086144620229955320695175938414842410182189914361272017438532257282015517190781113072840311912177082632443388242594205889017347
theorem hC_cX12_isAhead : CodeIs cX12_isAhead NC_cX12_isAhead := by unfold CodeIs; decide +kernel
def NC_cX12_isAsked : Nat := 1336145153183872733787122645868716543394736820271193473464585278721479041452867357680619635594901915426600175402646626100154238733051118929262415899
theorem hC_cX12_isAsked : CodeIs cX12_isAsked NC_cX12_isAsked := by unfold CodeIs; decide +kernel
def NC_cX12_isChoice : Nat := 4747022561706021897048775060059630373827079182320545110038515453017686715766921074348833699367295927128572020359405239912930600026907
theorem hC_cX12_isChoice : CodeIs cX12_isChoice NC_cX12_isChoice := by unfold CodeIs; decide +kernel
def NC_cX12_isDay : Nat := 7910626991665096753947
theorem hC_cX12_isDay : CodeIs cX12_isDay NC_cX12_isDay := by unfold CodeIs; decide +kernel
def NC_cX12_isGood : Nat := 33910586849918775445431894783018
theorem hC_cX12_isGood : CodeIs cX12_isGood NC_cX12_isGood := by unfold CodeIs; decide +kernel
def NC_cX12_isInForce : Nat := 16864522800756757260439924556350072312942081898926798043914901393403258204021440509345980374428553621929143069574441501
theorem hC_cX12_isInForce : CodeIs cX12_isInForce NC_cX12_isInForce := by unfold CodeIs; decide +kernel
def NC_cX12_isMeant : Nat := 1105233366270394843820147205327423658802257014907186584180671822959947931700819517844670283521131951791480497125802037523498
theorem hC_cX12_isMeant : CodeIs cX12_isMeant NC_cX12_isMeant := by unfold CodeIs; decide +kernel
def NC_cX12_isOfStage : Nat := 3926577698615555944951332104180153833893314207092044376453844185240057797518155887001906795621103768703120426
theorem hC_cX12_isOfStage : CodeIs cX12_isOfStage NC_cX12_isOfStage := by unfold CodeIs; decide +kernel
def NC_cX12_isOff : Nat := 29797032609405213817773295378471181539015514874009117248529744243907315885960867697259157810265998730120115554928223558174161093238692569090405604889575783055112572802702016049276015078677290
theorem hC_cX12_isOff : CodeIs cX12_isOff NC_cX12_isOff := by unfold CodeIs; decide +kernel
def NC_cX12_isOpen : Nat := 10494818304294687154754553585593064095076915955174305307434
theorem hC_cX12_isOpen : CodeIs cX12_isOpen NC_cX12_isOpen := by unfold CodeIs; decide +kernel
def NC_cX12_isOwn : Nat := 16864810786093776740711897563589597268729174532116078213716693532712278163152823357102397227503301137406546990837314602
theorem hC_cX12_isOwn : CodeIs cX12_isOwn NC_cX12_isOwn := by unfold CodeIs; decide +kernel
def NC_cX12_isPlus : Nat := 37285084546193613003420275394691774473244698
theorem hC_cX12_isPlus : CodeIs cX12_isPlus NC_cX12_isPlus := by unfold CodeIs; decide +kernel
def NC_cX12_isRendering : Nat := 132718297730341196350586749723
theorem hC_cX12_isRendering : CodeIs cX12_isRendering NC_cX12_isRendering := by unfold CodeIs; decide +kernel
def NC_cX12_isSign : Nat := 10494818304294687154750861253942633535736586333572527034394
theorem hC_cX12_isSign : CodeIs cX12_isSign NC_cX12_isSign := by unfold CodeIs; decide +kernel
def NC_cX12_isSmall : Nat := 49561231584238299608485106277736548115122778338703626132424810265087759506750723
theorem hC_cX12_isSmall : CodeIs cX12_isSmall NC_cX12_isSmall := by unfold CodeIs; decide +kernel
def NC_cX12_isTimes : Nat := 10494818304294687154750736638818028699596800440554981298202
theorem hC_cX12_isTimes : CodeIs cX12_isTimes NC_cX12_isTimes := by unfold CodeIs; decide +kernel
def NC_cX12_isUnlike : Nat := 12283070019606724349572239203563124283740146144514651756493750142600461926929149088583009455632190701909131474631367046344325231390803675579828931556117430360040749296146605620041349508943232512963179248789960549698991004092019601063746262271103017727018
theorem hC_cX12_isUnlike : CodeIs cX12_isUnlike NC_cX12_isUnlike := by unfold CodeIs; decide +kernel
def NC_cX12_isValue : Nat := 234042268908951040801698474508107109989503181426766726558407250697270382057196787178787177364362498074
theorem hC_cX12_isValue : CodeIs cX12_isValue NC_cX12_isValue := by unfold CodeIs; decide +kernel
def NC_cX12_isVerse : Nat := 132718297730341245824315032347
theorem hC_cX12_isVerse : CodeIs cX12_isVerse NC_cX12_isVerse := by unfold CodeIs; decide +kernel
def NC_cX12_isVowel : Nat := 234042268908951040801700906141981093637011846925397337655671168019338586797714620644511582816896618522
theorem hC_cX12_isVowel : CodeIs cX12_isVowel NC_cX12_isVowel := by unfold CodeIs; decide +kernel
def NC_cX12_isWord : Nat := 132718297730341254620408054555
theorem hC_cX12_isWord : CodeIs cX12_isWord NC_cX12_isWord := by unfold CodeIs; decide +kernel
def NC_cX12_joins : Nat := 3980080112123671576842232117884056048145557435006373079994711681931156909688305039143454492070484292355077674
theorem hC_cX12_joins : CodeIs cX12_joins NC_cX12_joins := by unfold CodeIs; decide +kernel
def NC_cX12_judge : Nat := 569143290547329942618774874414198594587
theorem hC_cX12_judge : CodeIs cX12_judge NC_cX12_judge := by unfold CodeIs; decide +kernel
def NC_cX12_lastOf : Nat := 11148357686676076056778945346961868184715988833115617358749758286943450227603035330080253132890890835378816761926089436249216834405008559507496218618364896737207913498377908264566641760614410841518832698470651426533642977732651567092577973290
theorem hC_cX12_lastOf : CodeIs cX12_lastOf NC_cX12_lastOf := by unfold CodeIs; decide +kernel
def NC_cX12_leftOf : Nat := 59928958930538143912147474528668937862951882808385329872806259411842638767839382096398209057323460279555
theorem hC_cX12_leftOf : CodeIs cX12_leftOf NC_cX12_leftOf := by unfold CodeIs; decide +kernel
def NC_cX12_lies : Nat := 568925240267846878104158471925616679706
theorem hC_cX12_lies : CodeIs cX12_lies NC_cX12_lies := by unfold CodeIs; decide +kernel
def NC_cX12_line : Nat := 257331874930825272037890334906363124217236114927888604628418057758820321872568438108788605554991310253433626336283
theorem hC_cX12_line : CodeIs cX12_line NC_cX12_line := by unfold CodeIs; decide +kernel
def NC_cX12_lists : Nat := 4645785015607842454523169833537684094381653928720328438889045307590250982731622489848496104703722199841386879185880962941623800890214270681773529461929758130305602140636655630575772650788474676748397234798724949684773873416701767754476935612070615920329713235067519940866524872272790155584292837087576874
theorem hC_cX12_lists : CodeIs cX12_lists NC_cX12_lists := by unfold CodeIs; decide +kernel
def NC_cX12_look : Nat := 620249048055039672165883926713200758674814165575569808258323527823765840466285536818757480137000819951746674532325392018499712272344371800453976565285190950527723554388987581467899708800284704889662083820729779994674285605103750287097750109500897849224527264104041253670003756658964689939188853323132460094469762431817855494984676114340902687209098732289883071198769110096145145391961033818705894556881100427777690841247898614882974591767572072006548411648274303304775464043914556464358549337738427553746101425455548937620027844022234863227893887149322724476946131361436408618
theorem hC_cX12_look : CodeIs cX12_look NC_cX12_look := by unfold CodeIs; decide +kernel
def NC_cX12_mayBe : Nat := 205654552204757988969517555926975294836476284871010663175475772444847538186357376120151069834516297700150920533196402284693686868353177266385627996282569005285917010079881408886367998315627806177158640922653844610453982282896857786304306996279860076487340997891
theorem hC_cX12_mayBe : CodeIs cX12_mayBe NC_cX12_mayBe := by unfold CodeIs; decide +kernel
def NC_cX12_missed : Nat := 140745536413695176927043917688007215975172388470975253743933818976123355861140510784454362342909744435759307380674524242829684021716024745019903514882967096031379857092222624896138261580655925268013556611367181098
theorem hC_cX12_missed : CodeIs cX12_missed NC_cX12_missed := by unfold CodeIs; decide +kernel
def NC_cX12_must : Nat := 45605161551604984589183824743714316967104486413667510064132281972266
theorem hC_cX12_must : CodeIs cX12_must NC_cX12_must := by unfold CodeIs; decide +kernel
def NC_cX12_mustBeAlike : Nat := 13477652769173142453727591544465743124489253636654605711856750461077009748402058603648490167942149013700117016941841891885290087898910786374171660690362546696518734556022088611411117235759702504482759057219540435558440391315656605987654701972912356350578724624481795
theorem hC_cX12_mustBeAlike : CodeIs cX12_mustBeAlike NC_cX12_mustBeAlike := by unfold CodeIs; decide +kernel
def NC_cX12_neededAt : Nat := 2955188023976819787418056891815619954289529276253045266424435323484639274
theorem hC_cX12_neededAt : CodeIs cX12_neededAt NC_cX12_neededAt := by unfold CodeIs; decide +kernel
def NC_cX12_now : Nat := 40996075291739805368375451184128949672769682703754996251
theorem hC_cX12_now : CodeIs cX12_now NC_cX12_now := by unfold CodeIs; decide +kernel
def NC_cX12_one : Nat := 39615968166303168692556339251322660097488698524645228973357134660053840157918231166483889960266317728702641342846999677932058034703210808494641228719962778550709175848252818765511359338464718303169455228737369587452749818279466
theorem hC_cX12_one : CodeIs cX12_one NC_cX12_one := by unfold CodeIs; decide +kernel
def NC_cX12_opens : Nat := 215428394453871405692015832278226022370780408332967229873731872728649107634448243657651242
theorem hC_cX12_opens : CodeIs cX12_opens NC_cX12_opens := by unfold CodeIs; decide +kernel
def NC_cX12_option : Nat := 2074414030185255699882510861138353090107021373057049160991756041628224891501359610959358868142339026023161556855179168088320698691225438597978281830014572726714673994567456398229457825259286736241433807883698860670108462617178835104597552145611482336531378702919553203919452317016849080739289508633103735178319944760363031795140276732763998204347584257111330021156009759535530779
theorem hC_cX12_option : CodeIs cX12_option NC_cX12_option := by unfold CodeIs; decide +kernel
def NC_cX12_piece : Nat := 2889594647407033103647713270787222592281843035305208782709929202354719016107315488430753017942008532758168303312127153461060549131742485674218474289639100738816651505421673126114400332058543871323741422226114895278546572966075135264114891404842
theorem hC_cX12_piece : CodeIs cX12_piece NC_cX12_piece := by unfold CodeIs; decide +kernel
def NC_cX12_placeOf : Nat := 45085558601239992542745756137835274567372192037256261410547243433219
theorem hC_cX12_placeOf : CodeIs cX12_placeOf NC_cX12_placeOf := by unfold CodeIs; decide +kernel
def NC_cX12_plan : Nat := 72431912835927649746494969698014745626908458344443494853409911991180942333602100532703163730773086973316347477605818135883200042
theorem hC_cX12_plan : CodeIs cX12_plan NC_cX12_plan := by unfold CodeIs; decide +kernel
def NC_cX12_prices : Nat := 323252264075768579339075674131051916897513911006300513145723188266517226661688757718112144959197786320907669005794169510469855599464613205738716719331134799371950466599203905450179358130004353515088681819842057417882381678690149877555682521541698320741226017046712814550778920826905037117517682657589148218129760654307192987010204758944851041333633403635878541672410594543250647870601667277550332589763310984949249895743121520922090904834745902118066417515416131960340737124501220752805805059
theorem hC_cX12_prices : CodeIs cX12_prices NC_cX12_prices := by unfold CodeIs; decide +kernel
def NC_cX12_printed : Nat := 19030264330326401963433987754634630960035718956915918003846417375375049659248825249617692687138208884689055976965042819438244360374243774411413727009066626387017057778772956479522755929674412692688583829839352878212167329295106066974723341711146547344101447641855810002793255665094382109597274048310997849947298666128152291246476924670875131294397115655714913746701146838020578368996479323627798006405989496159500835985511704147119927954769041527188019486081507714739967680109871498011
theorem hC_cX12_printed : CodeIs cX12_printed NC_cX12_printed := by unfold CodeIs; decide +kernel
def NC_cX12_prints : Nat := 162044009501844460119670438389125108955090768466326570
theorem hC_cX12_prints : CodeIs cX12_prints NC_cX12_prints := by unfold CodeIs; decide +kernel
def NC_cX12_push : Nat := 215781944594483472895741451220156409227925906245975021445647266656341221305102943374874640
theorem hC_cX12_push : CodeIs cX12_push NC_cX12_push := by unfold CodeIs; decide +kernel
def NC_cX12_puts : Nat := 765127646066171973129408291397185734899279929719728934523447951205305725994
theorem hC_cX12_puts : CodeIs cX12_puts NC_cX12_puts := by unfold CodeIs; decide +kernel
def NC_cX12_quarrel : Nat := 43548276000306634092463227641099845781846468521585191054725238743778536469502812683237478054081729496151451860506799162047319096723790790617060614735853917988518876768832388111118194217033090975484764138286868594152119911469138680464415530
theorem hC_cX12_quarrel : CodeIs cX12_quarrel NC_cX12_quarrel := by unfold CodeIs; decide +kernel
def NC_cX12_quarrelsOf : Nat := 46271572580682048106666967750146695632610592461489200421836461742543993114883338749948223741645304056596057543412537286840982396851626468486975732660114120136692052360332261037008150469233456038787982586170940880088055974308427416779653009329077632738758046975833914438204291194814157732729962634291350313066607755862883012648405318606060869146896125220148538640510033125862478781628810122059733792377153083992204729007619
theorem hC_cX12_quarrelsOf : CodeIs cX12_quarrelsOf NC_cX12_quarrelsOf := by unfold CodeIs; decide +kernel
def NC_cX12_reads : Nat := 11148525207805419348026228141566139249440858533438229527199994586454253992214609131908708180725157831030220166460623375732576097067382938898725355614039237788932020998481588536320877415351832074711768886617639094772947548333369255823424881435
theorem hC_cX12_reads : CodeIs cX12_reads NC_cX12_reads := by unfold CodeIs; decide +kernel
def NC_cX12_readsMust : Nat := 85647307321062415055258493973004376654449402716744627222090197679312103701045126988866386990403717227131044003768554900720866535538015544698399128127672291760892883082855219358901080022148810638170331821677183618332501203982304605822216206682879139379554605139762204179675817342544854564631763508402556038883442865318442026
theorem hC_cX12_readsMust : CodeIs cX12_readsMust NC_cX12_readsMust := by unfold CodeIs; decide +kernel
def NC_cX12_readsNumber : Nat := 10141822683203386529029769584371738396869906116015359665093473553801219874096918299156691943354818057390362247263831618712873195919577772828897472401384402852353243869599634271180836187737836007349293430101326460841800633434616874
theorem hC_cX12_readsNumber : CodeIs cX12_readsNumber NC_cX12_readsNumber := by unfold CodeIs; decide +kernel
def NC_cX12_readsRank : Nat := 1437554700043235216674272692813965779198691015745971401626242000265258977974904308749047576753196687034945876567696987939225843860974289909580362770128285933523725414493039981608184007430223857378202787020914347325913174073350030188768598983495860910158131485958864624960196725431661059574648071322820980082145190488275612829170947
theorem hC_cX12_readsRank : CodeIs cX12_readsRank NC_cX12_readsRank := by unfold CodeIs; decide +kernel
def NC_cX12_render : Nat := 699929595293323221044646971976596686386915803454445275260353252397090434786460755876889443125166058506418486198812766168595396606081566438057680872003750715608028263122262303152687757076967725016430164982261041896979681839900874933162830958415678846532724151190659474392928261059077244381750305408639440068952852638711357079087735697931261898075609343977761900807825467466316961840199683285431482451730900179204402992351723074464861031033296423099657460142307979810744129658113443743347722547616812243529959043674256906179876424030336752858816605804822286298522756359841482598978633022866380112988565787057118786258901856213238159426023034714672542458559746126294260042531165430057253980495655069352272555197749790578496845156093026674409046503101473437277943481193244817034926808328980495536288341937482242708331711936578074899663725174933166782287800054388271829845585097768026157938720736161142113615407153807090621010808691552251161981994
theorem hC_cX12_render : CodeIs cX12_render NC_cX12_render := by unfold CodeIs; decide +kernel
def NC_cX12_rows : Nat := 2687284663903169842748645519030962872518761485550216598993924
theorem hC_cX12_rows : CodeIs cX12_rows NC_cX12_rows := by unfold CodeIs; decide +kernel
def NC_cX12_rules : Nat := 2005913250651118784385826426017287829403911689952513231932994748458839724121237332705034344254170567602878341076053052100104145450847763755730620665341991316268958555825121278162403600410532896472328395891795415314838241920283380317888622015124551766500706116123008067063479501561551458450861564070114149390433008192077830910334116869208731722086469011902530780703904777222013000905863161745265237232616117299409053997770136973040097606789510543461543233902863663758840989981987315452556444026585425319266200541431719444502488919469860226447244899370
theorem hC_cX12_rules : CodeIs cX12_rules NC_cX12_rules := by unfold CodeIs; decide +kernel
def NC_cX12_scholar : Nat := 342355969079496971528546158544944225647251873614613519860699727766596648987017294858422950181483392909764426077145688081086978395610665038334180570154
theorem hC_cX12_scholar : CodeIs cX12_scholar NC_cX12_scholar := by unfold CodeIs; decide +kernel
def NC_cX12_seesDigit : Nat := 132718297727245968925905761834
theorem hC_cX12_seesDigit : CodeIs cX12_seesDigit NC_cX12_seesDigit := by unfold CodeIs; decide +kernel
def NC_cX12_sizeOf : Nat := 160174664929296318115872778870013073092670013927209987
theorem hC_cX12_sizeOf : CodeIs cX12_sizeOf NC_cX12_sizeOf := by unfold CodeIs; decide +kernel
def NC_cX12_source : Nat := 1290917675958866307594418373014125334640623575500047638367975626731807223882423184571006995632569079980039446470357495687234561286163104802084521960811268820715053282680581708133747353583838978836294821951282409462863836326927598998339151769661730425785877064642713269584988929242754772738555293187511005308620450962218
theorem hC_cX12_source : CodeIs cX12_source NC_cX12_source := by unfold CodeIs; decide +kernel
def NC_cX12_spell : Nat := 20388303024702461293115272884457723082337413837800006846183204389077796330454528767414974626690238220081925734631896706106120024210122119447323
theorem hC_cX12_spell : CodeIs cX12_spell NC_cX12_spell := by unfold CodeIs; decide +kernel
def NC_cX12_spells : Nat := 286825983951760138026787648744049856108968278663704280979979149313728100183553635123507168786814003341730762267801817985011728
theorem hC_cX12_spells : CodeIs cX12_spells NC_cX12_spells := by unfold CodeIs; decide +kernel
def NC_cX12_sums : Nat := 260833833142971392793476745116455918497212500695479849530792007488083026448892374198691391962182474093539658675754
theorem hC_cX12_sums : CodeIs cX12_sums NC_cX12_sums := by unfold CodeIs; decide +kernel
def NC_cX12_syllables : Nat := 37284744263846338702261649546353750379469610
theorem hC_cX12_syllables : CodeIs cX12_syllables NC_cX12_syllables := by unfold CodeIs; decide +kernel
def NC_cX12_syllablesOf : Nat := 1615315116477731931791865938277066360958732970746409403732230335407115622967987434405382582095269464770828866885882424260137511517181083099673088278641120760437624237407491
theorem hC_cX12_syllablesOf : CodeIs cX12_syllablesOf NC_cX12_syllablesOf := by unfold CodeIs; decide +kernel
def NC_cX12_tells : Nat := 15541729684245652271589952992128001273182935960382244522551278262766107981460205052944933210815743100236842
theorem hC_cX12_tells : CodeIs cX12_tells NC_cX12_tells := by unfold CodeIs; decide +kernel
def NC_cX12_token : Nat := 311092696817060536061887210981741553715298578512573075506838618493416429545695340459658248555520737458278780955350716458533337100054829866
theorem hC_cX12_token : CodeIs cX12_token NC_cX12_token := by unfold CodeIs; decide +kernel
def NC_cX12_tokensOf : Nat := 176143510106220819944533234006746504170671996650670775792379370282
theorem hC_cX12_tokensOf : CodeIs cX12_tokensOf NC_cX12_tokensOf := by unfold CodeIs; decide +kernel
def NC_cX12_top : Nat := 40995384001154812065160711093130460047720393844807808042
theorem hC_cX12_top : CodeIs cX12_top NC_cX12_top := by unfold CodeIs; decide +kernel
def NC_cX12_turnsBy : Nat := 413516895855853464338948460129785094699705878146050776457994106095125831862444072871961026765661078665135119361920223358510608712178787637131497357701677737401629314379953667
theorem hC_cX12_turnsBy : CodeIs cX12_turnsBy NC_cX12_turnsBy := by unfold CodeIs; decide +kernel
def NC_cX12_unfixes : Nat := 2993390018586655009152105515799159062743457066958300701948186678414849066
theorem hC_cX12_unfixes : CodeIs cX12_unfixes NC_cX12_unfixes := by unfold CodeIs; decide +kernel
def NC_cX12_unlike : Nat := 22416591255417358261094405991427098848161457590758380172606625850445226375329536794156155369650340815559991825392807732651946736316891031229852900216838939
theorem hC_cX12_unlike : CodeIs cX12_unlike NC_cX12_unlike := by unfold CodeIs; decide +kernel
def NC_cX12_unlikes : Nat := 23011678892802573125880143566774225078386784345180957874213761842228060227054779576823834081260141641951622631453064545492293158790770511158645074259321291382426197106153975526226021176008161036393335033934306241702117373943547266764802902054327162976292824715025781061768323557619255440296030280559685365668685697763962000422663556037938148113781513284283501383232182703079200992005615848762827720728991314712871234659340206989972284405435665169500911312094461767547704129978203502209393829503264207203941635
theorem hC_cX12_unlikes : CodeIs cX12_unlikes NC_cX12_unlikes := by unfold CodeIs; decide +kernel
def NC_cX12_up : Nat := 30871079662101994266
theorem hC_cX12_up : CodeIs cX12_up NC_cX12_up := by unfold CodeIs; decide +kernel
def NC_cX12_valueOf : Nat := 128008416904083784026642067769000981280639423896418603438732881712285939282288839517616239662794287162771659843779665259338586617708945561368697893224563172747345676851573216956546936436664475649616667
theorem hC_cX12_valueOf : CodeIs cX12_valueOf NC_cX12_valueOf := by unfold CodeIs; decide +kernel
def NC_cX12_verse : Nat := 96364641158545919810617193067868690156094330500619528203445177435186727897622338209656001820630535524796338859815912454901389359840985795761929819722789992152478762
theorem hC_cX12_verse : CodeIs cX12_verse NC_cX12_verse := by unfold CodeIs; decide +kernel
def NC_cX12_voids : Nat := 1336461110000574316977826756363802867581496562413096353983817203945757678456416894925070124912775527464378953973935001044483764768217289852635972379
theorem hC_cX12_voids : CodeIs cX12_voids NC_cX12_voids := by unfold CodeIs; decide +kernel
def NC_cX12_vote : Nat := 52647421774767658693810529985007950732238824649867953316004596410623473192089930133403755198767235805898450186407109550113336393567984531498662239222151161705184167035794708166527648610108772917754551789598987073449826683127351971560534049845914247168171566564123
theorem hC_cX12_vote : CodeIs cX12_vote NC_cX12_vote := by unfold CodeIs; decide +kernel
def NC_cX12_word : Nat := 1888316531338202122439595833911590979915818381482048827512847876954854824809741088828832166408024753006790112535849140985792797883104458764548182621712081249990793782065020462734196661692349034481924136329067103683058189933614473737377168621902539665483502010908831190183110094300067946770211606858235046614187474326091119360966928226932930565039689704935431606416426
theorem hC_cX12_word : CodeIs cX12_word NC_cX12_word := by unfold CodeIs; decide +kernel
def NC_cX12_wordOf : Nat := 22416753483312698154600409358537921620199412113615059375789853674527942934181352649218027676340383225349103684915953583431661962887644057655018048549303811
theorem hC_cX12_wordOf : CodeIs cX12_wordOf NC_cX12_wordOf := by unfold CodeIs; decide +kernel
def NC_cX12_worked : Nat := 1419354909547867941602796514391527201718495668102348554988556506935631187142208279852861609732959719212269018083724368454659434753803647564358220241104010669732236634205312422105883853376886617134810860538644291265024352625730595597451652729446779320486167612676685048693998190569688605857117211596918874865376385291505115684973338
theorem hC_cX12_worked : CodeIs cX12_worked NC_cX12_worked := by unfold CodeIs; decide +kernel
def NC_cX12_worth : Nat := 1134747616914370977267160698413869409997398459087835709128531666112121131929549422606169599350104800383863889270319749087848525846488095892795503703483821633664470750208121723544519184889874725042522765765434756814037008344421632009203633282478228810117286273350719119094492714210094554440176683090868148674650986685349314223005234893718771845268400775185031018148886882159876447835957577769610426172225766769401534026915255641791351450557816522767451440050704735136683154224643
theorem hC_cX12_worth : CodeIs cX12_worth NC_cX12_worth := by unfold CodeIs; decide +kernel
def NC_cX1_addPlaces : Nat := 30194336203346363805514047512163033144918185045131940223805764389284737824751370927877200147869850208616539796923489492297529964483186563598045449776724525715732114979814079291132375906205187
theorem hC_cX1_addPlaces : CodeIs cX1_addPlaces NC_cX1_addPlaces := by unfold CodeIs; decide +kernel
def NC_cX1_gatherHeld : Nat := 125224162351633788937498525856723859410804047260014106862284445778792658562310477505179552145658510072937227809197886143373919216912955424461923102536198822351714963738421769377155657270793379294153410310526901731852820807042324515597061456732806745141870174108925231772120539195496511762833035894670435192888245192685006628714374498130988848213978292297599123688096052266
theorem hC_cX1_gatherHeld : CodeIs cX1_gatherHeld NC_cX1_gatherHeld := by unfold CodeIs; decide +kernel
def NC_cX1_init : Nat := 117798973808956177633890733674864357109881447861191440651496343747032285823130340060784284033135902752626439485250517776952354175809357817160475579399643376494981563364096293758776903776042
theorem hC_cX1_init : CodeIs cX1_init NC_cX1_init := by unfold CodeIs; decide +kernel
def NC_cX1_isUnlike : Nat := 226116282542684187474379592825076549672840193276125738825271702813441835106480090808727432550700708721082749071612064320294696595034203581506376515590728453415959906168726592844499648548108613198754268102154678681897429634455412379033391178639270184267372521723779609799210
theorem hC_cX1_isUnlike : CodeIs cX1_isUnlike NC_cX1_isUnlike := by unfold CodeIs; decide +kernel
def NC_cX1_markAlike : Nat := 531172341589496332281306597545340795481238160881674055994115409843206924387963328440297350994463309847139265552615576084953054070306333382622991407157156188483238811790038185705042282758584969503672963774670361296773318471323082555600675484446414203249655761405985802983958950801797778684659791385716373426371015216552013586266896288003407727864960535406924602002221648454862323203
theorem hC_cX1_markAlike : CodeIs cX1_markAlike NC_cX1_markAlike := by unfold CodeIs; decide +kernel
def NC_cX1_seekBreach : Nat := 6096113777618735440768583605063603725599028880782525961033255724167007477856019430478794816797293815552473157816195695497656484150659436955028400832652847485649943364995490010736379982669993090235354816653347930586523430704352516424219028300556932691459725694011590862256467533262834406564367673300878317913614709051451159056807023001010986
theorem hC_cX1_seekBreach : CodeIs cX1_seekBreach NC_cX1_seekBreach := by unfold CodeIs; decide +kernel
def NC_cX1_seekQuarrel : Nat := 273359537083638186905962619654411926497868024334205366045877195810248940116829647206948698692523941147395057003476545312385364316031044057883196336984536048581502686185593764800760627066224221191646995060028960804020536770778058878768130495380604409715622038699476411926646102727796534437288936234
theorem hC_cX1_seekQuarrel : CodeIs cX1_seekQuarrel NC_cX1_seekQuarrel := by unfold CodeIs; decide +kernel
def NC_cX1_seekSecond : Nat := 16293487067381857055474609823656944547279864263953374389807427679081050867985982994004986395696696715724761996178099455672586652470135766364309716797412167503826087137805521901575587624501434812187949792411164876039361326720912754420958309854468343343190315667330655131431972978651299886122
theorem hC_cX1_seekSecond : CodeIs cX1_seekSecond NC_cX1_seekSecond := by unfold CodeIs; decide +kernel
def NC_cX1_seekUnlike : Nat := 74337974443096029950639934777024804367390526325369457810386068775303956029483775176353188155265217183419769408501817795418626721734441110962337226868125288087418823922963679405611083629201949365801136784101077692529337798668870498371981345360219607738409768670982852627967929053124227141764526728505655909004049680776750300983677023085894914207858774555260064223111695118843623149805405129633122342291778124205595714202181615327230280778502084143607425729248302928185423112831304490
theorem hC_cX1_seekUnlike : CodeIs cX1_seekUnlike NC_cX1_seekUnlike := by unfold CodeIs; decide +kernel
def NC_cX1_seen : Nat := 1839068132394
theorem hC_cX1_seen : CodeIs cX1_seen NC_cX1_seen := by unfold CodeIs; decide +kernel
def NC_cX1_shareClause : Nat := 59915284341534178246638635215658911305164838656271780626380297815173056864746156768105355055344224386563
theorem hC_cX1_shareClause : CodeIs cX1_shareClause NC_cX1_shareClause := by unfold CodeIs; decide +kernel
def NC_cX1_tellClause : Nat := 41502872907075863418750163415348937359373013828434441258
theorem hC_cX1_tellClause : CodeIs cX1_tellClause NC_cX1_tellClause := by unfold CodeIs; decide +kernel
def NC_cX1_told : Nat := 10494722523324321414452883478833959250031584065661389806363
theorem hC_cX1_told : CodeIs cX1_told NC_cX1_told := by unfold CodeIs; decide +kernel
def NC_cX2_binds : Nat := 5219317004624502866356008670599436721267781935631006428195917889333458357887762504166984646378161785619618014243351357063349586945679125802687259
theorem hC_cX2_binds : CodeIs cX2_binds NC_cX2_binds := by unfold CodeIs; decide +kernel
def NC_cX2_clauseOf : Nat := 120576960858427418
theorem hC_cX2_clauseOf : CodeIs cX2_clauseOf NC_cX2_clauseOf := by unfold CodeIs; decide +kernel
def NC_cX2_clausesOf : Nat := 40995384001154787253633600177716232342527529173437684507
theorem hC_cX2_clausesOf : CodeIs cX2_clausesOf NC_cX2_clausesOf := by unfold CodeIs; decide +kernel
def NC_cX2_enact : Nat := 2149003258989887394410110447786858430782501379366139447854477911079023957411048665706783527290885508454495412521191567849426782515501824595333368375356995065919416377519555417906499479554787801250689947055658
theorem hC_cX2_enact : CodeIs cX2_enact NC_cX2_enact := by unfold CodeIs; decide +kernel
def NC_cX2_hasClause : Nat := 9544981643825564928878022235877963788974070556
theorem hC_cX2_hasClause : CodeIs cX2_hasClause NC_cX2_hasClause := by unfold CodeIs; decide +kernel
def NC_cX2_init : Nat := 2389160855624996790954422366020322289410919692263868252014760490293979625392921719795834230235208728143094918197390524107435327392227412011979699649280732196878991608308795638019647359114557206157965665820503733197387562
theorem hC_cX2_init : CodeIs cX2_init NC_cX2_init := by unfold CodeIs; decide +kernel
def NC_cX2_isFull : Nat := 2222364219796276867593797242500199466
theorem hC_cX2_isFull : CodeIs cX2_isFull NC_cX2_isFull := by unfold CodeIs; decide +kernel
def NC_cX2_isNumber : Nat := 145644861508568800794648709111001867393818
theorem hC_cX2_isNumber : CodeIs cX2_isNumber NC_cX2_isNumber := by unfold CodeIs; decide +kernel
def NC_cX2_isOf : Nat := 40995384001151121698244884830875031083931542713331136539
theorem hC_cX2_isOf : CodeIs cX2_isOf NC_cX2_isOf := by unfold CodeIs; decide +kernel
def NC_cX2_placeOf : Nat := 1840126103578
theorem hC_cX2_placeOf : CodeIs cX2_placeOf NC_cX2_placeOf := by unfold CodeIs; decide +kernel
def NC_cX2_putClause : Nat := 3975174702018710367050986770563259166820072354734255267473314223338728675030618470795829565829903372657931818
theorem hC_cX2_putClause : CodeIs cX2_putClause NC_cX2_putClause := by unfold CodeIs; decide +kernel
def NC_cX2_putDays : Nat := 55166631316543354865655024517187925161126666060718644094472564682545685904840756081419400746
theorem hC_cX2_putDays : CodeIs cX2_putDays NC_cX2_putDays := by unfold CodeIs; decide +kernel
def NC_cX2_putMeaning : Nat := 18772215293701342482039817992745370271721342394465599252294111633008968094249677952788169421282821427007436149214425399908058052138
theorem hC_cX2_putMeaning : CodeIs cX2_putMeaning NC_cX2_putMeaning := by unfold CodeIs; decide +kernel
def NC_cX2_rulesOf : Nat := 1840058994714
theorem hC_cX2_rulesOf : CodeIs cX2_rulesOf NC_cX2_rulesOf := by unfold CodeIs; decide +kernel
def NC_cX2_size : Nat := 1838984246314
theorem hC_cX2_size : CodeIs cX2_size NC_cX2_size := by unfold CodeIs; decide +kernel
def NC_cX2_speaksOf : Nat := 16864522800756757260439807920516950438025379021172078068573802326825324653366308746709324508365311372351512435570554907
theorem hC_cX2_speaksOf : CodeIs cX2_speaksOf NC_cX2_speaksOf := by unfold CodeIs; decide +kernel
def NC_cX2_speaksOfAny : Nat := 11539269783249584926993170552187185867023679463092354043086465174158851
theorem hC_cX2_speaksOfAny : CodeIs cX2_speaksOfAny NC_cX2_speaksOfAny := by unfold CodeIs; decide +kernel
def NC_cX2_start : Nat := 37284744263830025886295479696102804988934171
theorem hC_cX2_start : CodeIs cX2_start NC_cX2_start := by unfold CodeIs; decide +kernel
def NC_cX2_subject : Nat := 37284744263830025875415147319571142416578587
theorem hC_cX2_subject : CodeIs cX2_subject NC_cX2_subject := by unfold CodeIs; decide +kernel
def NC_cX2_textOf : Nat := 3279558501187921469414713934978072481608442954151464279222315899360197176007956929307
theorem hC_cX2_textOf : CodeIs cX2_textOf NC_cX2_textOf := by unfold CodeIs; decide +kernel
def NC_cX2_value : Nat := 37284744263830025882668702237258917464815643
theorem hC_cX2_value : CodeIs cX2_value NC_cX2_value := by unfold CodeIs; decide +kernel
def NC_cX3_clausesRead : Nat := 1838615147562
theorem hC_cX3_clausesRead : CodeIs cX3_clausesRead NC_cX3_clausesRead := by unfold CodeIs; decide +kernel
def NC_cX3_fail : Nat := 132463418778170131703271856938
theorem hC_cX3_fail : CodeIs cX3_fail NC_cX3_fail := by unfold CodeIs; decide +kernel
def NC_cX3_init : Nat := 147366194655226446504206847670662545323818
theorem hC_cX3_init : CodeIs cX3_init NC_cX3_init := by unfold CodeIs; decide +kernel
def NC_cX3_isBetween : Nat := 568925240267846878104158471925616679706
theorem hC_cX3_isBetween : CodeIs cX3_isBetween NC_cX3_isBetween := by unfold CodeIs; decide +kernel
def NC_cX3_isTermSign : Nat := 49560378204008075777209871341059185125802158753257904459347665434038358719378986
theorem hC_cX3_isTermSign : CodeIs cX3_isTermSign NC_cX3_isTermSign := by unfold CodeIs; decide +kernel
def NC_cX3_pass : Nat := 2954058330560946780374769140546981796533241024125560948230663961869071914
theorem hC_cX3_pass : CodeIs cX3_pass NC_cX3_pass := by unfold CodeIs; decide +kernel
def NC_cX3_read : Nat := 804038716812919784207475285260737335884668463024116610699511949783023508541971598378948856823039601896515484258407177320253973506682048690739269431057552982026410774393195480920852141792968980103632053854062359282650492088376760738980482120160458785194060586
theorem hC_cX3_read : CodeIs cX3_read NC_cX3_read := by unfold CodeIs; decide +kernel
def NC_cX3_readClause : Nat := 4032499574622854618195208287073569593151277824143555758496167582909853147488857008774624891704256876180722190141632649351524100441051199338652656114247822272049476461986187520693133675528139770841587960928184594188305510175832974070268049760246381343841736351985797735384020979749685415607690207787496169539451391300326281772876971242550544979725955670589689609093384550258190814863888546144034100234400947888219527764146255397502661188122279212384607056785618474
theorem hC_cX3_readClause : CodeIs cX3_readClause NC_cX3_readClause := by unfold CodeIs; decide +kernel
def NC_cX3_readComparison : Nat := 16864691745647724101227059827225241973443026327661486575082911204421918046093247674217588951832681155798404022793188906
theorem hC_cX3_readComparison : CodeIs cX3_readComparison NC_cX3_readComparison := by unfold CodeIs; decide +kernel
def NC_cX3_readCondition : Nat := 283006456572276897944005805735041246949681460895127982804986724891754406655309503151178643232446570474137138746265666489555754
theorem hC_cX3_readCondition : CodeIs cX3_readCondition NC_cX3_readCondition := by unfold CodeIs; decide +kernel
def NC_cX3_readFactor : Nat := 531276291314872620873985322098529553687287313318846084551332733010001409646840269902970583877525843968238078605583409558619527255302492470991553134398592044969600021246335156209255822281680698860091874537826213684036477914301579785620712568186511598433410212957267255448665372965162349981232696542730394918008273590555901156669050540414629895195073647311850721688013211070959236650
theorem hC_cX3_readFactor : CodeIs cX3_readFactor NC_cX3_readFactor := by unfold CodeIs; decide +kernel
def NC_cX3_readHundredths : Nat := 499911252247034903746956335149523241431291712107297016478188794406331983367767902490151503345097552631505306878634552725899033104274762516004102758101104065038074625360373300103324757590351024272938
theorem hC_cX3_readHundredths : CodeIs cX3_readHundredths NC_cX3_readHundredths := by unfold CodeIs; decide +kernel
def NC_cX3_readNumber : Nat := 5544304514858326853269570130375157915319615154917423777909299681336276870575508578798508024668959641067725849005959342274975979047052480529918572048552170556998088265492301789604948509534583687636394136154331471273472006011642560467559402170963625962047423559185116597777835016746385481106223907001385385029995572604004852610090
theorem hC_cX3_readNumber : CodeIs cX3_readNumber NC_cX3_readNumber := by unfold CodeIs; decide +kernel
def NC_cX3_readOpening : Nat := 45075352944350384222027117012740811104328018556603696253915367870491
theorem hC_cX3_readOpening : CodeIs cX3_readOpening NC_cX3_readOpening := by unfold CodeIs; decide +kernel
def NC_cX3_readPart : Nat := 283006456572276897944006225687180405287970940415555589388288872699745307402854042353445196053026557442529595092571760832682794
theorem hC_cX3_readPart : CodeIs cX3_readPart NC_cX3_readPart := by unfold CodeIs; decide +kernel
def NC_cX3_readPiece : Nat := 187039005101870984302898402757753478212222841500798442874883877620911071037415540252503665678659815539688109101767805402077125102503665048226349385834275659085542069431410944742684257862166137104835078422760075712993155498097445947791658890020566570
theorem hC_cX3_readPiece : CodeIs cX3_readPiece NC_cX3_readPiece := by unfold CodeIs; decide +kernel
def NC_cX3_readRanks : Nat := 52647383314899222219909451990421905851890689749804363529425745492511173824839479992721262646734966573500681982630936932263361175099703153497887989210056302934988889207091648830361132762196672738618207939085087321197833175991420404974239121850202432437162069933315
theorem hC_cX3_readRanks : CodeIs cX3_readRanks NC_cX3_readRanks := by unfold CodeIs; decide +kernel
def NC_cX3_readRest : Nat := 11539174756968411565106999407448410502071776825068904678455211705700906
theorem hC_cX3_readRest : CodeIs cX3_readRest NC_cX3_readRest := by unfold CodeIs; decide +kernel
def NC_cX3_readSum : Nat := 1336459776245700524744825181929496049696571839109642743617764361138398589793149845592091112472489655544311721578107831921272123002089549884563004202
theorem hC_cX3_readSum : CodeIs cX3_readSum NC_cX3_readSum := by unfold CodeIs; decide +kernel
def NC_cX3_readTail : Nat := 311095536030799321314776801477629502770902358683960051856562202436846733433125111800941313714424263201489599591578513285210425793146041898
theorem hC_cX3_readTail : CodeIs cX3_readTail NC_cX3_readTail := by unfold CodeIs; decide +kernel
def NC_cX3_readTerm : Nat := 4318336131990113380401333955670030431605709320963480595563899052795362534718966873115740578109811641453814073861021768490
theorem hC_cX3_readTerm : CodeIs cX3_readTerm NC_cX3_readTerm := by unfold CodeIs; decide +kernel
def NC_cX3_readTurning : Nat := 19697506258684992797061675020451868340720968338422148861792831772199035444746658054746596098071275910104430548028628886628533892556823797814823679680569649354126501196272722193220592621868352972560635856086474708260411301851469617058368953702189454584661889178285651345372586344196538518740752672615874490452611114
theorem hC_cX3_readTurning : CodeIs cX3_readTurning NC_cX3_readTurning := by unfold CodeIs; decide +kernel
def NC_cX3_sign : Nat := 15338054151172000986355928769851232590546224085114722676418581959623315189752791941950746471099455867237418
theorem hC_cX3_sign : CodeIs cX3_sign NC_cX3_sign := by unfold CodeIs; decide +kernel
def NC_cX4_centreRate : Nat := 1838833251370
theorem hC_cX4_centreRate : CodeIs cX4_centreRate NC_cX4_centreRate := by unfold CodeIs; decide +kernel
def NC_cX4_companies : Nat := 1838598370346
theorem hC_cX4_companies : CodeIs cX4_companies NC_cX4_companies := by unfold CodeIs; decide +kernel
def NC_cX4_companyOf : Nat := 11539164470957916274025638345819913761413856911718547452529729408351491
theorem hC_cX4_companyOf : CodeIs cX4_companyOf NC_cX4_companyOf := by unfold CodeIs; decide +kernel
def NC_cX4_enterCompany : Nat := 65935361386565465041505659157703259605239497478940699091874038822212076518568939004896346336296062926681419039159338
theorem hC_cX4_enterCompany : CodeIs cX4_enterCompany NC_cX4_enterCompany := by unfold CodeIs; decide +kernel
def NC_cX4_enterScholar : Nat := 376424369836333797631692374365977531779542736675397076411578403103152879930680789171423424459370695989684472666662265412403053594085981899816390030652171429655594
theorem hC_cX4_enterScholar : CodeIs cX4_enterScholar NC_cX4_enterScholar := by unfold CodeIs; decide +kernel
def NC_cX4_hasBook : Nat := 176073833571905694047530217917621841293737031869019056591850576682
theorem hC_cX4_hasBook : CodeIs cX4_hasBook NC_cX4_hasBook := by unfold CodeIs; decide +kernel
def NC_cX4_hasCompany : Nat := 37285084546193613003429276296261783970159387
theorem hC_cX4_hasCompany : CodeIs cX4_hasCompany NC_cX4_hasCompany := by unfold CodeIs; decide +kernel
def NC_cX4_hasScholar : Nat := 37285084546193613003429350083238078808365851
theorem hC_cX4_hasScholar : CodeIs cX4_hasScholar NC_cX4_hasScholar := by unfold CodeIs; decide +kernel
def NC_cX4_init : Nat := 11675552819049428416003018582213381686469298298426169782877040834295594
theorem hC_cX4_init : CodeIs cX4_init NC_cX4_init := by unfold CodeIs; decide +kernel
def NC_cX4_isVoid : Nat := 145644861508568800794487189491592091186218
theorem hC_cX4_isVoid : CodeIs cX4_isVoid NC_cX4_isVoid := by unfold CodeIs; decide +kernel
def NC_cX4_makeVoid : Nat := 34317555656167840447126868089130
theorem hC_cX4_makeVoid : CodeIs cX4_makeVoid NC_cX4_makeVoid := by unfold CodeIs; decide +kernel
def NC_cX4_rateOf : Nat := 9544981643826418379091679170746848672660986666
theorem hC_cX4_rateOf : CodeIs cX4_rateOf NC_cX4_rateOf := by unfold CodeIs; decide +kernel
def NC_cX4_scholars : Nat := 1838665479210
theorem hC_cX4_scholars : CodeIs cX4_scholars NC_cX4_scholars := by unfold CodeIs; decide +kernel
def NC_cX4_setCentreRate : Nat := 476238870551338
theorem hC_cX4_setCentreRate : CodeIs cX4_setCentreRate NC_cX4_setCentreRate := by unfold CodeIs; decide +kernel
def NC_cX4_voters : Nat := 59914820840707060018269027694461064280351398859288528757822032917815337332487481222729840295312317482011
theorem hC_cX4_voters : CodeIs cX4_voters NC_cX4_voters := by unfold CodeIs; decide +kernel
def NC_cX5_answer : Nat := 6309709501548242445955773624088003412836975313542721118076950362653303889403774028389092862204108362491896950923288982470244942298155059145424286513473423826206226167338
theorem hC_cX5_answer : CodeIs cX5_answer NC_cX5_answer := by unfold CodeIs; decide +kernel
def NC_cX5_daysOf : Nat := 63645494496625515239170683602358169905054038546265551453558491503550953923073262592928632307225694521970628349560299493430394948821052507421204186162495174174533386345581529883775690444167226355873267472766323529965054904585577107953584125847660757067866085844707943934562872414762481194
theorem hC_cX5_daysOf : CodeIs cX5_daysOf NC_cX5_daysOf := by unfold CodeIs; decide +kernel
def NC_cX5_daysOfCentre : Nat := 22430091368443400670243762277486065924781269504071396706180600553011141881709641989718756394957479043496527811693831796305742335878350071835351696485334019
theorem hC_cX5_daysOfCentre : CodeIs cX5_daysOfCentre NC_cX5_daysOfCentre := by unfold CodeIs; decide +kernel
def NC_cX5_gatherBooks : Nat := 591961877321116744191070553527699654430629210678785421645508633928104913735150846382341764625608964743923190186467391684922294326271441429133325365490089081842404117460563342134915601697871053880036668986406802706703734085361622086126512189019430862608641423529487693757264373607183969172130922074681608752544704346305263512862469839569955594789692021579092654080620616941140537997807991864323
theorem hC_cX5_gatherBooks : CodeIs cX5_gatherBooks NC_cX5_gatherBooks := by unfold CodeIs; decide +kernel
def NC_cX5_give : Nat := 612623489372637480690038552200935537780170663652781887344752675617363563629098607584660503568721458729745264033099629621744077005413441113550156197045239261617653618564580484246181794131978439037290068183169664658078706204
theorem hC_cX5_give : CodeIs cX5_give NC_cX5_give := by unfold CodeIs; decide +kernel
def NC_cX5_giveTo : Nat := 1798027098975574798866850708026741224116480200957169032027449293080564423808237992755769843024853507814238118250384907614674807151449259102580248213268143387052434311324938044916675626
theorem hC_cX5_giveTo : CodeIs cX5_giveTo NC_cX5_giveTo := by unfold CodeIs; decide +kernel
def NC_cX5_init : Nat := 5281907602416460855454027027639938626840327374717200479124981654702093816524181886948044838698642449467291300398586904373120509054747864389957418
theorem hC_cX5_init : CodeIs cX5_init NC_cX5_init := by unfold CodeIs; decide +kernel
def NC_cX5_mayHave : Nat := 11539174756968411565105891249541805715097392908544059318202650488517674
theorem hC_cX5_mayHave : CodeIs cX5_mayHave NC_cX5_mayHave := by unfold CodeIs; decide +kernel
def NC_cX5_through : Nat := 569470905805895429910445448978086534427
theorem hC_cX5_through : CodeIs cX5_through NC_cX5_through := by unfold CodeIs; decide +kernel
def NC_cX6_aim : Nat := 53295442882312515643903916750491431219402072432174593809457684068386327727589023785075968454966896316573092980791106020297526967409976588086592642526140307812479375850016658742548805663144668424355617917283011108940069561391575498858339593827801905783938489850666
theorem hC_cX6_aim : CodeIs cX6_aim NC_cX6_aim := by unfold CodeIs; decide +kernel
def NC_cX6_companyThere : Nat := 1839202350122
theorem hC_cX6_companyThere : CodeIs cX6_companyThere NC_cX6_companyThere := by unfold CodeIs; decide +kernel
def NC_cX6_findCopy : Nat := 2630771440144568935139275715077314356805091914887150499526733230452422707211019113273575133752739861196899167678216235644032942897126829263369797493839950993758809495353353468845066002015081232963983187049761908943999322341707026474
theorem hC_cX6_findCopy : CodeIs cX6_findCopy NC_cX6_findCopy := by unfold CodeIs; decide +kernel
def NC_cX6_firstCopy : Nat := 1839521117226
theorem hC_cX6_firstCopy : CodeIs cX6_firstCopy NC_cX6_firstCopy := by unfold CodeIs; decide +kernel
def NC_cX6_hundredths : Nat := 176207188770490937500362721619874242144095787309498837825188401194
theorem hC_cX6_hundredths : CodeIs cX6_hundredths NC_cX6_hundredths := by unfold CodeIs; decide +kernel
def NC_cX6_init : Nat := 178167653161604264089419836531484859912567766791026977174167009066
theorem hC_cX6_init : CodeIs cX6_init NC_cX6_init := by unfold CodeIs; decide +kernel
def NC_cX6_isDigit : Nat := 37285084546193613003434663855073666003898394
theorem hC_cX6_isDigit : CodeIs cX6_isDigit NC_cX6_isDigit := by unfold CodeIs; decide +kernel
def NC_cX6_isInForce : Nat := 145644861508568800794487189491592460284970
theorem hC_cX6_isInForce : CodeIs cX6_isInForce NC_cX6_isInForce := by unfold CodeIs; decide +kernel
def NC_cX6_isTermSign : Nat := 10494818304294687154750736638818028699596800440554981298202
theorem hC_cX6_isTermSign : CodeIs cX6_isTermSign NC_cX6_isTermSign := by unfold CodeIs; decide +kernel
def NC_cX6_lastInForce : Nat := 154714592022178195237174529526725465185384370379961500068922377017942563622505626625719860884330152507068310961577175921370350234722754425482567547245225915631264648906560028956795268784721023501671432766057576512002570892330
theorem hC_cX6_lastInForce : CodeIs cX6_lastInForce NC_cX6_lastInForce := by unfold CodeIs; decide +kernel
def NC_cX6_letterValue : Nat := 500052629115349798760638872066248485518438685990601051106824920865951077816495063299507196082561195808894322658063690963772981730516982881405108108626286802728884385468367639161578773131439072389915
theorem hC_cX6_letterValue : CodeIs cX6_letterValue NC_cX6_letterValue := by unfold CodeIs; decide +kernel
def NC_cX6_numberThere : Nat := 283003833974744463580275838728485896517928767963606262482290466224244035363228903764409412204528301759475014169740010460494851
theorem hC_cX6_numberThere : CodeIs cX6_numberThere NC_cX6_numberThere := by unfold CodeIs; decide +kernel
def NC_cX6_reckonCondition : Nat := 7629901522457902999644840552495855191516207002016447513801635163375871928324024252409222225998264630138709538126404392365718074934822521756169828717395646965916026052631098768774342410524957482
theorem hC_cX6_reckonCondition : CodeIs cX6_reckonCondition NC_cX6_reckonCondition := by unfold CodeIs; decide +kernel
def NC_cX6_reckonFactor : Nat := 32808824624127281402566230328762135535455880843400705742060627218783349044340404737004144822614865507524206056315246128008217359461162473037178902608538488098443915330504291389598558914877273460135301148
theorem hC_cX6_reckonFactor : CodeIs cX6_reckonFactor NC_cX6_reckonFactor := by unfold CodeIs; decide +kernel
def NC_cX6_reckonPart : Nat := 7629901522457902999644840552495855191516207002028934460368796563408577797102268473765891838766777308367692207457685500815022236420240872535075627352922984077863462651941153939628649240959130410
theorem hC_cX6_reckonPart : CodeIs cX6_reckonPart NC_cX6_reckonPart := by unfold CodeIs; decide +kernel
def NC_cX6_reckonPiece : Nat := 2507783055813439659789774959757131408434102353351782556023565145552265582335725067846439905962606617262140743748556014284365963355953018310112700003221920355298297771538710960698085167671586379920392096421397808417859752626304701249202262818643625066004719952324453103165106352559437407763475338010550612185656694173155687895988521120752758355672896400719924783124553163489397907317944161404747572973596
theorem hC_cX6_reckonPiece : CodeIs cX6_reckonPiece NC_cX6_reckonPiece := by unfold CodeIs; decide +kernel
def NC_cX6_reckonSum : Nat := 10141873286626195970015420995937363764936280327068701654391158695958420388535146608612326398896719866287415245260269416077811260927024867229044499181135630317281724024320423251314441562167850471581155406735451106779550678624508714
theorem hC_cX6_reckonSum : CodeIs cX6_reckonSum NC_cX6_reckonSum := by unfold CodeIs; decide +kernel
def NC_cX6_reckonTerm : Nat := 69996564556373935827499681151867275315222512810308753820386550972540927832248442898042746790087552117819454610841998363851523022638065110798710517882342082193408268064502850690270628562613980633106330162526729142554025458331806066323517169033578468716811606072901934591921335459216314458106016570154
theorem hC_cX6_reckonTerm : CodeIs cX6_reckonTerm NC_cX6_reckonTerm := by unfold CodeIs; decide +kernel
def NC_cX6_restDays : Nat := 688309331134356080191635170179619626470166925979287213224955946
theorem hC_cX6_restDays : CodeIs cX6_restDays NC_cX6_restDays := by unfold CodeIs; decide +kernel
def NC_cX6_sign : Nat := 49559925891163953473802060136164848766683165665701157064558849257818452396127274
theorem hC_cX6_sign : CodeIs cX6_sign NC_cX6_sign := by unfold CodeIs; decide +kernel
def NC_cX6_sourceSize : Nat := 1839571448874
theorem hC_cX6_sourceSize : CodeIs cX6_sourceSize NC_cX6_sourceSize := by unfold CodeIs; decide +kernel
def NC_cX6_verdict : Nat := 376091425874486471310494219864850025089265647419346695840062835389093675303733158398648967069176971916268730283680135957919407798676592834137996792235045930710058
theorem hC_cX6_verdict : CodeIs cX6_verdict NC_cX6_verdict := by unfold CodeIs; decide +kernel
def NC_cX7_becomeFixed : Nat := 523582952105276788708803882
theorem hC_cX7_becomeFixed : CodeIs cX7_becomeFixed NC_cX7_becomeFixed := by unfold CodeIs; decide +kernel
def NC_cX7_daysSinceFixed : Nat := 120581348580928027
theorem hC_cX7_daysSinceFixed : CodeIs cX7_daysSinceFixed NC_cX7_daysSinceFixed := by unfold CodeIs; decide +kernel
def NC_cX7_enterState : Nat := 476178741009194
theorem hC_cX7_enterState : CodeIs cX7_enterState NC_cX7_enterState := by unfold CodeIs; decide +kernel
def NC_cX7_fill : Nat := 5817364968730816318424014747635419159225632576650415109856549239772006969707416177380487481949878162002639972838525005734040725723691067307601828710335945500
theorem hC_cX7_fill : CodeIs cX7_fill NC_cX7_fill := by unfold CodeIs; decide +kernel
def NC_cX7_goBack : Nat := 11681977405704574557526610905845915459813070098512690171295065101900586
theorem hC_cX7_goBack : CodeIs cX7_goBack NC_cX7_goBack := by unfold CodeIs; decide +kernel
def NC_cX7_init : Nat := 44077803079348147612736736098364760297171219317041461968705336241081207554559661347435326695141961320202274979411616915462140852327487066983076374316706550223528374374285278393949333883038893805058528016097567102075976734648137017490192170
theorem hC_cX7_init : CodeIs cX7_init NC_cX7_init := by unfold CodeIs; decide +kernel
def NC_cX7_isEnough : Nat := 568925240267846878104035750005737939984
theorem hC_cX7_isEnough : CodeIs cX7_isEnough NC_cX7_isEnough := by unfold CodeIs; decide +kernel
def NC_cX7_isTurnedByOnly : Nat := 283009008561414228370201620386791120415125531909159492905115939655271488964663690800412480960463068983192626443644701182737923
theorem hC_cX7_isTurnedByOnly : CodeIs cX7_isTurnedByOnly NC_cX7_isTurnedByOnly := by unfold CodeIs; decide +kernel
def NC_cX7_isUnderVote : Nat := 625539917009752223178778016115831426082196600960042
theorem hC_cX7_isUnderVote : CodeIs cX7_isUnderVote NC_cX7_isUnderVote := by unfold CodeIs; decide +kernel
def NC_cX7_keepVote : Nat := 3615400215262733146986072821190957087728658677311806626618736921335614655627795519045483555239466
theorem hC_cX7_keepVote : CodeIs cX7_keepVote NC_cX7_keepVote := by unfold CodeIs; decide +kernel
def NC_cX7_leftBits : Nat := 234095434928672933398540052412159441660557903166720774867620492271098978511018559793377884195425364484
theorem hC_cX7_leftBits : CodeIs cX7_leftBits NC_cX7_leftBits := by unfold CodeIs; decide +kernel
def NC_cX7_nextSlot : Nat := 11542007902832967413609072254776384772900109107972743471671856687037979
theorem hC_cX7_nextSlot : CodeIs cX7_nextSlot NC_cX7_nextSlot := by unfold CodeIs; decide +kernel
def NC_cX7_putVote : Nat := 1118916048048043845339551243058653845953772057714273204579751443651786929132794994828905865590127962621478870670715222275626
theorem hC_cX7_putVote : CodeIs cX7_putVote NC_cX7_putVote := by unfold CodeIs; decide +kernel
def NC_cX7_slots : Nat := 471407238624298
theorem hC_cX7_slots : CodeIs cX7_slots NC_cX7_slots := by unfold CodeIs; decide +kernel
def NC_cX7_stage : Nat := 33910896334928524732906631902250
theorem hC_cX7_stage : CodeIs cX7_stage NC_cX7_stage := by unfold CodeIs; decide +kernel
def NC_cX7_standsWithout : Nat := 127977280575240935359127739369952063870546591311064017136518310827098946795618581594495092085990260789829625605297141263474290671973283930265321876778966960925829844651445618429079411382474463659471914
theorem hC_cX7_standsWithout : CodeIs cX7_standsWithout NC_cX7_standsWithout := by unfold CodeIs; decide +kernel
def NC_cX7_stateNumber : Nat := 1838598370346
theorem hC_cX7_stateNumber : CodeIs cX7_stateNumber NC_cX7_stateNumber := by unfold CodeIs; decide +kernel
def NC_cX7_takeOut : Nat := 1215205846941533365626581119238727788313398374923101933412433352740933705988919030882374400105286509300751975209482334197683810090398762
theorem hC_cX7_takeOut : CodeIs cX7_takeOut NC_cX7_takeOut := by unfold CodeIs; decide +kernel
def NC_cX7_tell : Nat := 4589782121886810326537886477654174034217933672517185352766501358662647588856668140232955236153140884446469767918324474242212469103741721823270609570817197547408292627945014537628791431616730991168784244539324076157907828063861011804675091298125587796841796776054147881933615006528846321873265713486015003
theorem hC_cX7_tell : CodeIs cX7_tell NC_cX7_tell := by unfold CodeIs; decide +kernel
def NC_cX7_tellSlot : Nat := 10503341579819568630509694614037444255141888071428836689179
theorem hC_cX7_tellSlot : CodeIs cX7_tellSlot NC_cX7_tellSlot := by unfold CodeIs; decide +kernel
def NC_cX7_tokenRow : Nat := 1856298333226
theorem hC_cX7_tokenRow : CodeIs cX7_tokenRow NC_cX7_tokenRow := by unfold CodeIs; decide +kernel
def NC_cX7_turnAt : Nat := 10494722523324321416154295313438651567440690823188778621723
theorem hC_cX7_turnAt : CodeIs cX7_turnAt NC_cX7_turnAt := by unfold CodeIs; decide +kernel
def NC_cX7_turnsLike : Nat := 39607049935737474366110287177196425968076426559074703512457693733830927493941924860910989622176017628534463769965601742665492095793496828171160424088375332405551847900376513144498592364078848401007373460893159592512956732867372
theorem hC_cX7_turnsLike : CodeIs cX7_turnsLike NC_cX7_turnsLike := by unfold CodeIs; decide +kernel
def NC_cX7_verseNumber : Nat := 1839017800746
theorem hC_cX7_verseNumber : CodeIs cX7_verseNumber NC_cX7_verseNumber := by unfold CodeIs; decide +kernel
def NC_cX7_wordAt : Nat := 10494722523324321414452883478833959250031584065661389806363
theorem hC_cX7_wordAt : CodeIs cX7_wordAt NC_cX7_wordAt := by unfold CodeIs; decide +kernel
def NC_cX7_wordRow : Nat := 1855644021802
theorem hC_cX7_wordRow : CodeIs cX7_wordRow NC_cX7_wordRow := by unfold CodeIs; decide +kernel
def NC_cX7_wouldGoOn : Nat := 2688266966777810598145406279667596959321016467801234420577322
theorem hC_cX7_wouldGoOn : CodeIs cX7_wouldGoOn NC_cX7_wouldGoOn := by unfold CodeIs; decide +kernel
def NC_cX8_at : Nat := 41377759597533294477792829743652138791120251431591910171
theorem hC_cX8_at : CodeIs cX8_at NC_cX8_at := by unfold CodeIs; decide +kernel
def NC_cX8_enter : Nat := 832221262953818097057007275142275593636749628562838525453679362863439391888507047818794
theorem hC_cX8_enter : CodeIs cX8_enter NC_cX8_enter := by unfold CodeIs; decide +kernel
def NC_cX8_fix : Nat := 215475010917356500387892234696723724998789517122957225267713813688186035984304179428863018
theorem hC_cX8_fix : CodeIs cX8_fix NC_cX8_fix := by unfold CodeIs; decide +kernel
def NC_cX8_fixedAt : Nat := 2040837135121012791913002
theorem hC_cX8_fixedAt : CodeIs cX8_fixedAt NC_cX8_fixedAt := by unfold CodeIs; decide +kernel
def NC_cX8_fixedNumber : Nat := 625534208019037331093192872197491675021331302226715
theorem hC_cX8_fixedNumber : CodeIs cX8_fixedNumber NC_cX8_fixedNumber := by unfold CodeIs; decide +kernel
def NC_cX8_fixedThen : Nat := 1005202564777247009937190797074158102345702498834886802262324379453469952159044299498390070758335639360481834026
theorem hC_cX8_fixedThen : CodeIs cX8_fixedThen NC_cX8_fixedThen := by unfold CodeIs; decide +kernel
def NC_cX8_fixedVerses : Nat := 756403226427367765012841641177449526913427450277746428344640218143417121795
theorem hC_cX8_fixedVerses : CodeIs cX8_fixedVerses NC_cX8_fixedVerses := by unfold CodeIs; decide +kernel
def NC_cX8_inState : Nat := 3927503972503655027170887379547833492780644774852338808152000267179238552420562681742468998254109323673419011
theorem hC_cX8_inState : CodeIs cX8_inState NC_cX8_inState := by unfold CodeIs; decide +kernel
def NC_cX8_init : Nat := 1637678541742437074434972949635472322115134913059868132887505894425936646152025970147375641344873441334348590816084299570644380991715623171022637982870703033934272023017258
theorem hC_cX8_init : CodeIs cX8_init NC_cX8_init := by unfold CodeIs; decide +kernel
def NC_cX8_isFull : Nat := 568925240267846878104062741868200375338
theorem hC_cX8_isFull : CodeIs cX8_isFull NC_cX8_isFull := by unfold CodeIs; decide +kernel
def NC_cX8_mayBeFixed : Nat := 45074901394407857676228343627883105547274011639224282986138888969002
theorem hC_cX8_mayBeFixed : CodeIs cX8_mayBeFixed NC_cX8_mayBeFixed := by unfold CodeIs; decide +kernel
def NC_cX8_setFixed : Nat := 24945127939155217695424166495278853001875186281226663465900530989509696751230443486318035494267198870641780133050549456693123680654926501317054195820877851079156472603
theorem hC_cX8_setFixed : CodeIs cX8_setFixed NC_cX8_setFixed := by unfold CodeIs; decide +kernel
def NC_cX8_size : Nat := 1838749365290
theorem hC_cX8_size : CodeIs cX8_size NC_cX8_size := by unfold CodeIs; decide +kernel
def NC_cX8_withdraw : Nat := 549792111308240961513192478719730754777487580689085125444637304394751790147006892959323321835292585169379083319931821597051144869104905098460932076570559418664964531234946300725578416865225920571570800956751363
theorem hC_cX8_withdraw : CodeIs cX8_withdraw NC_cX8_withdraw := by unfold CodeIs; decide +kernel
def NC_cX9_bookOf : Nat := 9544894531540486616988122487919275749125004074
theorem hC_cX9_bookOf : CodeIs cX9_bookOf NC_cX9_bookOf := by unfold CodeIs; decide +kernel
def NC_cX9_enter : Nat := 65935361459957420770275843816632350265204259066570230930672464230278617092341339641725121070656107764704881405899818
theorem hC_cX9_enter : CodeIs cX9_enter NC_cX9_enter := by unfold CodeIs; decide +kernel
def NC_cX9_has : Nat := 37285084546193613003429423870214373646572315
theorem hC_cX9_has : CodeIs cX9_has NC_cX9_has := by unfold CodeIs; decide +kernel
def NC_cX9_init : Nat := 17065070874477846749109575532055845942292348880952724073214276073885757582372220765606255310866702858715360979027277610
theorem hC_cX9_init : CodeIs cX9_init NC_cX9_init := by unfold CodeIs; decide +kernel
def NC_cX9_measureOf : Nat := 9544981643826418379091679170746848694135823146
theorem hC_cX9_measureOf : CodeIs cX9_measureOf NC_cX9_measureOf := by unfold CodeIs; decide +kernel
def NC_cX9_missedBits : Nat := 6939291445811482967515849966038283442660199923530343647130501353855197953749368721625326590842177463584134666920209184572955933056700177896467077121298091499981707119445673563602179
theorem hC_cX9_missedBits : CodeIs cX9_missedBits NC_cX9_missedBits := by unfold CodeIs; decide +kernel
def NC_cX9_putRow : Nat := 418649500919354174495024687261310978087060938063065383450114857815319705725356705906306379310981207318747917225358130044492427679620207075358815845395075336871605674177862442
theorem hC_cX9_putRow : CodeIs cX9_putRow NC_cX9_putRow := by unfold CodeIs; decide +kernel
def NC_cX9_recordReader : Nat := 460295395871718239995285214718157870554397656384803988928047034157306770206175464341297211270280318942232297171561136575779004026512343651624823904385031436120269112652811191673018522666
theorem hC_cX9_recordReader : CodeIs cX9_recordReader NC_cX9_recordReader := by unfold CodeIs; decide +kernel
def NC_cX9_rowOf : Nat := 236319231089260622333634483108417714822281527530473678366226444762229630833816593364141683801551412010
theorem hC_cX9_rowOf : CodeIs cX9_rowOf NC_cX9_rowOf := by unfold CodeIs; decide +kernel
def NC_cX9_size : Nat := 1838732588074
theorem hC_cX9_size : CodeIs cX9_size NC_cX9_size := by unfold CodeIs; decide +kernel
