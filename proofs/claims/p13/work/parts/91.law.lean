theorem dL_law_1575 : decode cL_law 1575 = .ok (.iconst 1, 1) := k4 hC_cL_law rfl
theorem dL_law_1576 : decode cL_law 1576 = .ok (.ireturn, 1) := k172 hC_cL_law rfl
-- ===== end of PART A; then your names; then what follows =====
/-! THE CLAIM OUT OF ONE WALK OF THE LAW'S BODY. Your part is whole_start (and what it stands on); all else here is the same for every law, but numbers. -/
def R_law : String := "VerseCommitteeLaw"
def lw_P (b : Addr) (xs : List Int32) (args : Array Value) (s : State) : Prop := args = #[.ref b] ∧ s.IntsAt b xs ∧ xs.length ≤ 3072 ∧ (Jvm.Cond.and given_1 narrow_1).before args s = true
def lw_Q (_ : Array Value) (s : State) (o : Outcome) (t : State) : Prop := o = .returned (some (.int 1)) ∧ Framed s o t [] 600000 7302250
def lw_Z (below : List Frame) (a : Array Value) (s : State) : State → Prop := fun t => ∃ o, t.status = .running ∧ Ended t below o ∧ lw_Q a s o t
/-- the law's own end, with 1 on the stack, nothing written that was there before, its room as the claim has it -/
theorem lw_ret {p : Program} {l : Launch} {e : Env} {s : State} {m : MethodId} {below : List Frame} {meth : Method} {c : Code} {b : Nat} (hx : p.tables.exec = Jvm.exec) (hb : c.code = code) (hr : meth.sig.returnType = ret) (hlocks : meth.locks = false) {pc : Nat} {H : Heap} {ls : Array Slot} (hdg : decode code pc = .ok (.ireturn, 1)) : W p l e room_1 s m #[Value.ref b] below meth c H [] 600000 7302250 (lw_Z below #[Value.ref b] s) (F0 m pc ls [.int 1]) := by
  intro T hT X
  obtain ⟨fs, hret, hrun, hended, hW, hframe⟩ := X.leave (v := some (.int 1)) (hlocks := hlocks) (fun h => by rw [hr] at h; cases h)
  have hmeth' : T.vm.method? m = some meth := X.method'
  refine ⟨T.setFrames fs, ?_, .returned (some (.int 1)), hrun, hended, rfl, ⟨_, rfl⟩, hW, hframe⟩
  jvm_step X.here [X.here.top, hx, hb, hdg, hmeth', hr, ret, narrow_b1]
  (try refine ⟨rfl, ?_⟩); (try refine ⟨rfl, ?_⟩)
  first | (intro acts; rw [hret _ acts rfl rfl rfl]) | rw [hret _ _ rfl rfl rfl]
  exact Steps.refl _
/-- what holds at the law's entry: the machine, the code, the tables' words (any of lw_tbl by 'hts w (by decide +kernel)'), the script of L ints xs at the cell b, what the Statement gives of the start (any of its parts by flat_of_before) -/
def lw_At (p : Program) (s : State) (m : MethodId) (meth : Method) (c : Code) (b L : Nat) (xs : Nat → Int32) : Prop :=
  p.tables.exec = Jvm.exec ∧ c.code = code ∧ meth.sig.returnType = ret ∧ c.maxLocals = 4 ∧ s.vm.findClass R_law = some m.cls ∧ (∀ w ∈ lw_tbl, w.before #[Value.ref b] s = true) ∧ va_X b L xs s s.heap ∧ b < s.heap.size ∧ meth.locks = false ∧ (Jvm.Cond.and given_1 narrow_1).before #[Value.ref b] s = true

def iv0 : Nat → Int32 := fun _ => 0
def iaX : Nat → Nat → Int32 := fun k _ => if k = 29 then -1 else 0
def ia0 : Nat → Nat → Int32 := fun _ _ => 0
def la0 : Nat → Nat → Int64 := fun _ _ => 0
def ra0 : Nat → Nat → Option Nat := fun _ _ => none
def ptN (t : Nat) : Nat → Option Nat := fun _ => some t
theorem xw_of (ct : Nat → ClassId) (tN h : Nat) (u : Nat → Nat) : WI11 ct tN [] h u = XW ct (fun k => if k = 0 then h else u (k - 1)) iv0 iaX la0 (ptN tN) ra0 [] := rfl
theorem mw_of (ct : Nat → ClassId) (tN h : Nat) (u : Nat → Nat) (ws : va_W) : WI12 ct tN ws h u = ws ++ MW ct (fun k => if k = 0 then h else u (k - 1)) iv0 ia0 [] := rfl
theorem xLo_0 (k : Nat) : xLo k ≤ 0 ∧ 0 ≤ xHi k := by
  unfold xLo xHi
  constructor <;> split <;> omega
theorem mLo_0 (k : Nat) : mLo k ≤ 0 ∧ 0 ≤ mHi k := by
  unfold mLo mHi
  constructor <;> split <;> omega
theorem iaX_ok : IMa xLo xHi iaX := by
  intro k j
  unfold iaX
  split
  · rename_i h; subst h; decide
  · rw [tI_0]; exact xLo_0 k
theorem ia0_ok : IMa mLo mHi ia0 := by
  intro k j
  show mLo k ≤ (0 : Int32).toInt ∧ (0 : Int32).toInt ≤ mHi k
  rw [tI_0]; exact mLo_0 k
theorem cntF_0 : cntF (ia0 35) = 0 := by
  have h : ∀ n, cntN (ia0 35) n = 0 := by
    intro n
    induction n with
    | zero => rfl
    | succ n ih => show cntN (ia0 35) n + isF (0 : Int32) = 0; rw [ih]; simp [isF, tI_0]
  exact h 200
/-- the reference's pieces: what its world has beside its place -/
def MInv (j0 j1 j2 j3 j4 j5 j6 j7 j8 j9 j10 j11 j12 j13 j14 j15 j16 j17 j18 j19 j20 j21 j22 j23 j24 j25 j26 j27 j28 j29 : Int32) (b1 b2 b3 b4 b5 b6 b7 b8 b9 b10 b11 b12 b13 b14 b15 b16 b17 b18 b19 b20 b21 b22 b23 b24 b25 b26 b27 b28 b29 b30 b31 b32 b33 b34 b35 b36 b37 b38 b39 b40 b41 b42 b43 b44 b45 b46 b47 b48 b49 b50 b51 b52 b53 b55 b56 b57 b58 b61 b62 b63 b64 b65 b66 : Nat → Int32) (iam : Nat → Nat → Int32) : Prop := IMa mLo mHi iam ∧ BM j0 j1 j2 j3 j4 j5 j6 j7 j8 j9 j10 j11 j12 j13 j15 j16 j17 j18 j26 j27 j28 ∧ iam 1 = b1 ∧ iam 2 = b2 ∧ iam 3 = b3 ∧ iam 4 = b4 ∧ iam 5 = b5 ∧ iam 6 = b6 ∧ iam 7 = b7 ∧ iam 8 = b8 ∧ iam 9 = b9 ∧ iam 10 = b10 ∧ iam 11 = b11 ∧ iam 12 = b12 ∧ iam 13 = b13 ∧ iam 14 = b14 ∧ iam 15 = b15 ∧ iam 16 = b16 ∧ iam 17 = b17 ∧ iam 18 = b18 ∧ iam 19 = b19 ∧ iam 20 = b20 ∧ iam 21 = b21 ∧ iam 22 = b22 ∧ iam 23 = b23 ∧ iam 24 = b24 ∧ iam 25 = b25 ∧ iam 26 = b26 ∧ iam 27 = b27 ∧ iam 28 = b28 ∧ iam 29 = b29 ∧ iam 30 = b30 ∧ iam 31 = b31 ∧ iam 32 = b32 ∧ iam 33 = b33 ∧ iam 34 = b34 ∧ iam 35 = b35 ∧ iam 36 = b36 ∧ iam 37 = b37 ∧ iam 38 = b38 ∧ iam 39 = b39 ∧ iam 40 = b40 ∧ iam 41 = b41 ∧ iam 42 = b42 ∧ iam 43 = b43 ∧ iam 44 = b44 ∧ iam 45 = b45 ∧ iam 46 = b46 ∧ iam 47 = b47 ∧ iam 48 = b48 ∧ iam 49 = b49 ∧ iam 50 = b50 ∧ iam 51 = b51 ∧ iam 52 = b52 ∧ iam 53 = b53 ∧ iam 55 = b55 ∧ iam 56 = b56 ∧ iam 57 = b57 ∧ iam 58 = b58 ∧ iam 61 = b61 ∧ iam 62 = b62 ∧ iam 63 = b63 ∧ iam 64 = b64 ∧ iam 65 = b65 ∧ iam 66 = b66
def REL (i1 j1 i3 j2 i6 j4 i7 j5 i10 i35 : Int32) : Prop := i1.toInt = j1.toInt ∧ i3.toInt = j2.toInt ∧ i6.toInt = j4.toInt ∧ i7.toInt = j5.toInt ∧ i10.toInt = i35.toInt
theorem toM {D : va_G} {A : Nat → Prop} {tN : Nat} {ad am : Nat → Nat} {ct : Nat → ClassId} {i0 i1 i2 i3 i4 i5 i6 i7 i8 i9 i10 i11 i12 i13 i14 i15 i16 i17 i18 i19 i20 i21 i22 i23 i24 i25 i26 i27 i28 i29 i30 i31 i32 i33 i34 i35 : Int32} {a1 a2 a4 a5 a7 a8 a10 a11 a13 a14 a15 a18 a19 a20 a21 a22 a23 a24 a25 a26 a29 a30 a31 a32 a43 a44 a45 a51 a52 a53 a54 a55 : Nat → Int32} {l46 : Nat → Int64} {r9n : Nat → Nat} {r9c og : Nat → Nat → Int32} {ogn : Nat → Nat → Nat} {ogc : Nat → Nat → Nat → Int32} {rtn : Nat → Nat} {rtc : Nat → Nat → Int32} {ptn : Nat} {ptc : Nat → Int32} {p0 p1 : Nat} {Pl : List PE} {j0 j1 j2 j3 j4 j5 j6 j7 j8 j9 j10 j11 j12 j13 j14 j15 j16 j17 j18 j19 j20 j21 j22 j23 j24 j25 j26 j27 j28 j29 : Int32} {b1 b2 b3 b4 b5 b6 b7 b8 b9 b10 b11 b12 b13 b14 b15 b16 b17 b18 b19 b20 b21 b22 b23 b24 b25 b26 b27 b28 b29 b30 b31 b32 b33 b34 b35 b36 b37 b38 b39 b40 b41 b42 b43 b44 b45 b46 b47 b48 b49 b50 b51 b52 b53 b55 b56 b57 b58 b61 b62 b63 b64 b65 b66 : Nat → Int32} {iam : Nat → Nat → Int32} {H : Heap} (B : SX D A ct ad tN i0 i1 i2 i3 i4 i5 i6 i7 i8 i9 i10 i11 i12 i13 i14 i15 i16 i17 i18 i19 i20 i21 i22 i23 i24 i25 i26 i27 i28 i29 i30 i31 i32 i33 i34 i35 a1 a2 a4 a5 a7 a8 a10 a11 a13 a14 a15 a18 a19 a20 a21 a22 a23 a24 a25 a26 a29 a30 a31 a32 a43 a44 a45 a51 a52 a53 a54 a55 l46 r9n r9c og ogn ogc rtn rtc ptn ptc p0 p1 Pl (MW ct am (mI j0 j1 j2 j3 j4 j5 j6 j7 j8 j9 j10 j11 j12 j13 j14 j15 j16 j17 j18 j19 j20 j21 j22 j23 j24 j25 j26 j27 j28 j29) iam []) H) (hM : MInv j0 j1 j2 j3 j4 j5 j6 j7 j8 j9 j10 j11 j12 j13 j14 j15 j16 j17 j18 j19 j20 j21 j22 j23 j24 j25 j26 j27 j28 j29 b1 b2 b3 b4 b5 b6 b7 b8 b9 b10 b11 b12 b13 b14 b15 b16 b17 b18 b19 b20 b21 b22 b23 b24 b25 b26 b27 b28 b29 b30 b31 b32 b33 b34 b35 b36 b37 b38 b39 b40 b41 b42 b43 b44 b45 b46 b47 b48 b49 b50 b51 b52 b53 b55 b56 b57 b58 b61 b62 b63 b64 b65 b66 iam) : ∃ Rw : va_W, SM D A ct am j0 j1 j2 j3 j4 j5 j6 j7 j8 j9 j10 j11 j12 j13 j14 j15 j16 j17 j18 j19 j20 j21 j22 j23 j24 j25 j26 j27 j28 j29 b1 b2 b3 b4 b5 b6 b7 b8 b9 b10 b11 b12 b13 b14 b15 b16 b17 b18 b19 b20 b21 b22 b23 b24 b25 b26 b27 b28 b29 b30 b31 b32 b33 b34 b35 b36 b37 b38 b39 b40 b41 b42 b43 b44 b45 b46 b47 b48 b49 b50 b51 b52 b53 b55 b56 b57 b58 b61 b62 b63 b64 b65 b66 Rw H ∧ ∀ {k0 k1 k2 k3 k4 k5 k6 k7 k8 k9 k10 k11 k12 k13 k14 k15 k16 k17 k18 k19 k20 k21 k22 k23 k24 k25 k26 k27 k28 k29 : Int32} {c1 c2 c3 c4 c5 c6 c7 c8 c9 c10 c11 c12 c13 c14 c15 c16 c17 c18 c19 c20 c21 c22 c23 c24 c25 c26 c27 c28 c29 c30 c31 c32 c33 c34 c35 c36 c37 c38 c39 c40 c41 c42 c43 c44 c45 c46 c47 c48 c49 c50 c51 c52 c53 c55 c56 c57 c58 c61 c62 c63 c64 c65 c66 : Nat → Int32} {H1 : Heap}, SM D A ct am k0 k1 k2 k3 k4 k5 k6 k7 k8 k9 k10 k11 k12 k13 k14 k15 k16 k17 k18 k19 k20 k21 k22 k23 k24 k25 k26 k27 k28 k29 c1 c2 c3 c4 c5 c6 c7 c8 c9 c10 c11 c12 c13 c14 c15 c16 c17 c18 c19 c20 c21 c22 c23 c24 c25 c26 c27 c28 c29 c30 c31 c32 c33 c34 c35 c36 c37 c38 c39 c40 c41 c42 c43 c44 c45 c46 c47 c48 c49 c50 c51 c52 c53 c55 c56 c57 c58 c61 c62 c63 c64 c65 c66 Rw H1 → ∃ iam1 : Nat → Nat → Int32, SX D A ct ad tN i0 i1 i2 i3 i4 i5 i6 i7 i8 i9 i10 i11 i12 i13 i14 i15 i16 i17 i18 i19 i20 i21 i22 i23 i24 i25 i26 i27 i28 i29 i30 i31 i32 i33 i34 i35 a1 a2 a4 a5 a7 a8 a10 a11 a13 a14 a15 a18 a19 a20 a21 a22 a23 a24 a25 a26 a29 a30 a31 a32 a43 a44 a45 a51 a52 a53 a54 a55 l46 r9n r9c og ogn ogc rtn rtc ptn ptc p0 p1 Pl (MW ct am (mI k0 k1 k2 k3 k4 k5 k6 k7 k8 k9 k10 k11 k12 k13 k14 k15 k16 k17 k18 k19 k20 k21 k22 k23 k24 k25 k26 k27 k28 k29) iam1 []) H1 ∧ MInv k0 k1 k2 k3 k4 k5 k6 k7 k8 k9 k10 k11 k12 k13 k14 k15 k16 k17 k18 k19 k20 k21 k22 k23 k24 k25 k26 k27 k28 k29 c1 c2 c3 c4 c5 c6 c7 c8 c9 c10 c11 c12 c13 c14 c15 c16 c17 c18 c19 c20 c21 c22 c23 c24 c25 c26 c27 c28 c29 c30 c31 c32 c33 c34 c35 c36 c37 c38 c39 c40 c41 c42 c43 c44 c45 c46 c47 c48 c49 c50 c51 c52 c53 c55 c56 c57 c58 c61 c62 c63 c64 c65 c66 iam1 := by
  obtain ⟨ia, la, pt, ra, pw, hP, hD, h1, h2, h3, h4, h5⟩ := B
  have hp : ∀ (r1 : va_W), (XW ct ad (xI i0 i1 i2 i3 i4 i5 i6 i7 i8 i9 i10 i11 i12 i13 i14 i15 i16 i17 i18 i19 i20 i21 i22 i23 i24 i25 i26 i27 i28 i29 i30 i31 i32 i33 i34) ia la pt ra (pw ++ r1)).Perm (r1 ++ XW ct ad (xI i0 i1 i2 i3 i4 i5 i6 i7 i8 i9 i10 i11 i12 i13 i14 i15 i16 i17 i18 i19 i20 i21 i22 i23 i24 i25 i26 i27 i28 i29 i30 i31 i32 i33 i34) ia la pt ra pw) := fun r1 => by
    rw [← XW_app]; exact List.perm_append_comm
  refine ⟨XW ct ad (xI i0 i1 i2 i3 i4 i5 i6 i7 i8 i9 i10 i11 i12 i13 i14 i15 i16 i17 i18 i19 i20 i21 i22 i23 i24 i25 i26 i27 i28 i29 i30 i31 i32 i33 i34) ia la pt ra pw, ⟨iam, hP.perm (hp (MW ct am (mI j0 j1 j2 j3 j4 j5 j6 j7 j8 j9 j10 j11 j12 j13 j14 j15 j16 j17 j18 j19 j20 j21 j22 j23 j24 j25 j26 j27 j28 j29) iam [])), hD.perm (hp (MW ct am (mI j0 j1 j2 j3 j4 j5 j6 j7 j8 j9 j10 j11 j12 j13 j14 j15 j16 j17 j18 j19 j20 j21 j22 j23 j24 j25 j26 j27 j28 j29) iam [])), hM⟩, fun {k0 k1 k2 k3 k4 k5 k6 k7 k8 k9 k10 k11 k12 k13 k14 k15 k16 k17 k18 k19 k20 k21 k22 k23 k24 k25 k26 k27 k28 k29} {c1 c2 c3 c4 c5 c6 c7 c8 c9 c10 c11 c12 c13 c14 c15 c16 c17 c18 c19 c20 c21 c22 c23 c24 c25 c26 c27 c28 c29 c30 c31 c32 c33 c34 c35 c36 c37 c38 c39 c40 c41 c42 c43 c44 c45 c46 c47 c48 c49 c50 c51 c52 c53 c55 c56 c57 c58 c61 c62 c63 c64 c65 c66} {H1} B1 => ?_⟩
  obtain ⟨iam1, gP, gD, g1⟩ := B1
  exact ⟨iam1, ⟨ia, la, pt, ra, pw, gP.perm (hp (MW ct am (mI k0 k1 k2 k3 k4 k5 k6 k7 k8 k9 k10 k11 k12 k13 k14 k15 k16 k17 k18 k19 k20 k21 k22 k23 k24 k25 k26 k27 k28 k29) iam1 [])).symm, gD.perm (hp (MW ct am (mI k0 k1 k2 k3 k4 k5 k6 k7 k8 k9 k10 k11 k12 k13 k14 k15 k16 k17 k18 k19 k20 k21 k22 k23 k24 k25 k26 k27 k28 k29) iam1 [])).symm, h1, h2, h3, h4, h5⟩, g1⟩
/-- both sides' worlds after n calls -/
def LI (D : va_G) (A : Nat → Prop) (ct : Nat → ClassId) (ad am : Nat → Nat) (tN n : Nat) (H : Heap) : Prop :=
  ∀ G : Prop, (∀ (i0 i1 i2 i3 i4 i5 i6 i7 i8 i9 i10 i11 i12 i13 i14 i15 i16 i17 i18 i19 i20 i21 i22 i23 i24 i25 i26 i27 i28 i29 i30 i31 i32 i33 i34 i35 : Int32) (a1 a2 a4 a5 a7 a8 a10 a11 a13 a14 a15 a18 a19 a20 a21 a22 a23 a24 a25 a26 a29 a30 a31 a32 a43 a44 a45 a51 a52 a53 a54 a55 : Nat → Int32) (l46 : Nat → Int64) (r9n : Nat → Nat) (r9c og : Nat → Nat → Int32) (ogn : Nat → Nat → Nat) (ogc : Nat → Nat → Nat → Int32) (rtn : Nat → Nat) (rtc : Nat → Nat → Int32) (ptn : Nat) (ptc : Nat → Int32) (p0 p1 : Nat) (Pl : List PE) (j0 j1 j2 j3 j4 j5 j6 j7 j8 j9 j10 j11 j12 j13 j14 j15 j16 j17 j18 j19 j20 j21 j22 j23 j24 j25 j26 j27 j28 j29 : Int32) (b1 b2 b3 b4 b5 b6 b7 b8 b9 b10 b11 b12 b13 b14 b15 b16 b17 b18 b19 b20 b21 b22 b23 b24 b25 b26 b27 b28 b29 b30 b31 b32 b33 b34 b35 b36 b37 b38 b39 b40 b41 b42 b43 b44 b45 b46 b47 b48 b49 b50 b51 b52 b53 b55 b56 b57 b58 b61 b62 b63 b64 b65 b66 : Nat → Int32) (iam : Nat → Nat → Int32), SX D A ct ad tN i0 i1 i2 i3 i4 i5 i6 i7 i8 i9 i10 i11 i12 i13 i14 i15 i16 i17 i18 i19 i20 i21 i22 i23 i24 i25 i26 i27 i28 i29 i30 i31 i32 i33 i34 i35 a1 a2 a4 a5 a7 a8 a10 a11 a13 a14 a15 a18 a19 a20 a21 a22 a23 a24 a25 a26 a29 a30 a31 a32 a43 a44 a45 a51 a52 a53 a54 a55 l46 r9n r9c og ogn ogc rtn rtc ptn ptc p0 p1 Pl (MW ct am (mI j0 j1 j2 j3 j4 j5 j6 j7 j8 j9 j10 j11 j12 j13 j14 j15 j16 j17 j18 j19 j20 j21 j22 j23 j24 j25 j26 j27 j28 j29) iam []) H → MInv j0 j1 j2 j3 j4 j5 j6 j7 j8 j9 j10 j11 j12 j13 j14 j15 j16 j17 j18 j19 j20 j21 j22 j23 j24 j25 j26 j27 j28 j29 b1 b2 b3 b4 b5 b6 b7 b8 b9 b10 b11 b12 b13 b14 b15 b16 b17 b18 b19 b20 b21 b22 b23 b24 b25 b26 b27 b28 b29 b30 b31 b32 b33 b34 b35 b36 b37 b38 b39 b40 b41 b42 b43 b44 b45 b46 b47 b48 b49 b50 b51 b52 b53 b55 b56 b57 b58 b61 b62 b63 b64 b65 b66 iam → REL i1 j1 i3 j2 i6 j4 i7 j5 i10 i35 → RP j6 b18 b23 b24 b25 → KI j6 b18 b19 b20 b21 b22 → j18.toInt + cntF b35 ≤ 2 * (n : Int) → R1 i0 i1 i2 i3 i6 i7 i8 i9 i10 a1 a4 a5 a7 a8 a13 a18 a19 a20 a21 a22 a23 a24 a25 a26 r9n r9c rtn rtc j0 j1 j2 j3 j4 j5 j6 j7 b1 b2 b3 b4 b5 b8 b12 b13 b14 b15 b16 b17 b18 b19 b20 b21 b22 b23 b24 b25 b26 → G) → G
theorem LI.mk {D : va_G} {A : Nat → Prop} {ct : Nat → ClassId} {ad am : Nat → Nat} {tN n : Nat} {H : Heap} {i0 i1 i2 i3 i4 i5 i6 i7 i8 i9 i10 i11 i12 i13 i14 i15 i16 i17 i18 i19 i20 i21 i22 i23 i24 i25 i26 i27 i28 i29 i30 i31 i32 i33 i34 i35 : Int32} {a1 a2 a4 a5 a7 a8 a10 a11 a13 a14 a15 a18 a19 a20 a21 a22 a23 a24 a25 a26 a29 a30 a31 a32 a43 a44 a45 a51 a52 a53 a54 a55 : Nat → Int32} {l46 : Nat → Int64} {r9n : Nat → Nat} {r9c og : Nat → Nat → Int32} {ogn : Nat → Nat → Nat} {ogc : Nat → Nat → Nat → Int32} {rtn : Nat → Nat} {rtc : Nat → Nat → Int32} {ptn : Nat} {ptc : Nat → Int32} {p0 p1 : Nat} {Pl : List PE} {j0 j1 j2 j3 j4 j5 j6 j7 j8 j9 j10 j11 j12 j13 j14 j15 j16 j17 j18 j19 j20 j21 j22 j23 j24 j25 j26 j27 j28 j29 : Int32} {b1 b2 b3 b4 b5 b6 b7 b8 b9 b10 b11 b12 b13 b14 b15 b16 b17 b18 b19 b20 b21 b22 b23 b24 b25 b26 b27 b28 b29 b30 b31 b32 b33 b34 b35 b36 b37 b38 b39 b40 b41 b42 b43 b44 b45 b46 b47 b48 b49 b50 b51 b52 b53 b55 b56 b57 b58 b61 b62 b63 b64 b65 b66 : Nat → Int32} {iam : Nat → Nat → Int32} (B : SX D A ct ad tN i0 i1 i2 i3 i4 i5 i6 i7 i8 i9 i10 i11 i12 i13 i14 i15 i16 i17 i18 i19 i20 i21 i22 i23 i24 i25 i26 i27 i28 i29 i30 i31 i32 i33 i34 i35 a1 a2 a4 a5 a7 a8 a10 a11 a13 a14 a15 a18 a19 a20 a21 a22 a23 a24 a25 a26 a29 a30 a31 a32 a43 a44 a45 a51 a52 a53 a54 a55 l46 r9n r9c og ogn ogc rtn rtc ptn ptc p0 p1 Pl (MW ct am (mI j0 j1 j2 j3 j4 j5 j6 j7 j8 j9 j10 j11 j12 j13 j14 j15 j16 j17 j18 j19 j20 j21 j22 j23 j24 j25 j26 j27 j28 j29) iam []) H) (hM : MInv j0 j1 j2 j3 j4 j5 j6 j7 j8 j9 j10 j11 j12 j13 j14 j15 j16 j17 j18 j19 j20 j21 j22 j23 j24 j25 j26 j27 j28 j29 b1 b2 b3 b4 b5 b6 b7 b8 b9 b10 b11 b12 b13 b14 b15 b16 b17 b18 b19 b20 b21 b22 b23 b24 b25 b26 b27 b28 b29 b30 b31 b32 b33 b34 b35 b36 b37 b38 b39 b40 b41 b42 b43 b44 b45 b46 b47 b48 b49 b50 b51 b52 b53 b55 b56 b57 b58 b61 b62 b63 b64 b65 b66 iam) (hr : REL i1 j1 i3 j2 i6 j4 i7 j5 i10 i35) (hp : RP j6 b18 b23 b24 b25) (hk : KI j6 b18 b19 b20 b21 b22) (hc : j18.toInt + cntF b35 ≤ 2 * (n : Int)) (hxR1 : R1 i0 i1 i2 i3 i6 i7 i8 i9 i10 a1 a4 a5 a7 a8 a13 a18 a19 a20 a21 a22 a23 a24 a25 a26 r9n r9c rtn rtc j0 j1 j2 j3 j4 j5 j6 j7 b1 b2 b3 b4 b5 b8 b12 b13 b14 b15 b16 b17 b18 b19 b20 b21 b22 b23 b24 b25 b26) : LI D A ct ad am tN n H :=
  fun _ k => k _ _ _ _ _ _ _ _ _ _ _ _ _ _ _ _ _ _ _ _ _ _ _ _ _ _ _ _ _ _ _ _ _ _ _ _ _ _ _ _ _ _ _ _ _ _ _ _ _ _ _ _ _ _ _ _ _ _ _ _ _ _ _ _ _ _ _ _ _ _ _ _ _ _ _ _ _ _ _ _ _ _ _ _ _ _ _ _ _ _ _ _ _ _ _ _ _ _ _ _ _ _ _ _ _ _ _ _ _ _ _ _ _ _ _ _ _ _ _ _ _ _ _ _ _ _ _ _ _ _ _ _ _ _ _ _ _ _ _ _ _ _ _ _ _ _ _ _ _ _ _ _ _ _ _ _ _ _ _ _ _ _ _ _ _ _ _ _ _ _ _ _ _ _ _ B hM hr hp hk hc hxR1
theorem LI.zero {D : va_G} {A : Nat → Prop} {ct : Nat → ClassId} {ad am : Nat → Nat} {tN : Nat} {H : Heap} (hP : va_P D classes (XW ct ad iv0 iaX la0 (ptN tN) ra0 [] ++ MW ct am iv0 ia0 []) H) (hD : va_D A (XW ct ad iv0 iaX la0 (ptN tN) ra0 [] ++ MW ct am iv0 ia0 [])) : LI D A ct ad am tN 0 H := by
  have harn : ARX tN ad [] tN 0 := ⟨Nat.zero_le _, Or.inr (Or.inl ⟨rfl, rfl⟩)⟩
  have B : SX D A ct ad tN 0 0 0 0 0 0 0 0 0 0 0 0 0 0 0 0 0 0 0 0 0 0 0 0 0 0 0 0 0 0 0 0 0 0 0 0 (iaX 1) (iaX 2) (iaX 4) (iaX 5) (iaX 7) (iaX 8) (iaX 10) (iaX 11) (iaX 13) (iaX 14) (iaX 15) (iaX 18) (iaX 19) (iaX 20) (iaX 21) (iaX 22) (iaX 23) (iaX 24) (iaX 25) (iaX 26) (iaX 29) (iaX 30) (iaX 31) (iaX 32) (iaX 43) (iaX 44) (iaX 45) (iaX 51) (iaX 52) (iaX 53) (iaX 54) (iaX 55) (la0 46) (fun _ => 0) (fun _ _ => 0) (fun _ _ => 0) (fun _ _ => 0) (fun _ _ _ => 0) (fun _ => 0) (fun _ _ => 0) 0 (fun _ => 0) tN tN [] (MW ct am (mI 0 0 0 0 0 0 0 0 0 0 0 0 0 0 0 0 0 0 0 0 0 0 0 0 0 0 0 0 0 0) ia0 []) H :=
    ⟨iaX, la0, ptN tN, ra0, [], hP, hD, iaX_ok, by unfold BX; rw [tI_0]; omega, ⟨rfl, rfl, rfl, rfl, rfl, rfl, rfl, rfl, rfl, rfl, rfl, rfl, rfl, rfl, rfl, rfl, rfl, rfl, rfl, rfl, rfl, rfl, rfl, rfl, rfl, rfl, rfl, rfl, rfl, rfl, rfl, rfl, rfl⟩, ⟨⟨rfl, 0, harn⟩, ⟨rfl, ARC.none⟩, fun j => Or.inl ⟨rfl, rfl⟩, fun j => Or.inl ⟨rfl, rfl⟩, fun j q h => (by cases h), fun j h => (by rw [tI_0] at h; omega)⟩, fun x hx => absurd hx List.not_mem_nil, fun x hx => absurd hx List.not_mem_nil, fun x hx => absurd hx List.not_mem_nil, fun x hx => absurd hx List.not_mem_nil⟩
  refine LI.mk B (b1 := ia0 1) ⟨ia0_ok, by unfold BM; rw [tI_0]; omega, rfl, rfl, rfl, rfl, rfl, rfl, rfl, rfl, rfl, rfl, rfl, rfl, rfl, rfl, rfl, rfl, rfl, rfl, rfl, rfl, rfl, rfl, rfl, rfl, rfl, rfl, rfl, rfl, rfl, rfl, rfl, rfl, rfl, rfl, rfl, rfl, rfl, rfl, rfl, rfl, rfl, rfl, rfl, rfl, rfl, rfl, rfl, rfl, rfl, rfl, rfl, rfl, rfl, rfl, rfl, rfl, rfl, rfl, rfl, rfl, rfl, rfl, rfl⟩ ⟨rfl, rfl, rfl, rfl, rfl⟩ (fun r j h => ?_) (fun r j h => ?_) ?_ R1_0
  · rw [tI_0] at h; omega
  · rw [tI_0] at h; omega
  · have := cntF_0; rw [tI_0]; omega
section LAWROWS
variable {p : Program} {l : Launch} {e : Env} {s : State} {m : MethodId} {below : List Frame} {meth : Method} {c : Code} {b : Nat} {xs : Nat → Int32} {L : Nat}
theorem law_arg {D : va_G} {ct : Nat → ClassId} {tN : Nat} (C0 : lw_At p s m meth c b L xs) (E : Ev p s m #[Value.ref b] c R_law 4 code D (TY ct) tN (fun q : Nat => s.heap.size ≤ q)) {H : Heap} {locs : List Loc} {cells slots : Nat} (hS : va_S (fun q : Nat => s.heap.size ≤ q) s.heap H locs) {ls : Array Slot} {i : Int32} {q1 q2 : Nat} (hl : lv_has ls 4 [(3, .int i), (2, .ref q1), (1, .ref q2), (0, .ref b)]) {pc : Nat} {st : List Value} {k : Int} {kv : Int32} (hk : Int32.ofInt k = kv) (hkv : kv.toInt = k) (hL : (L : Int) ≤ 100000) (h0 : 0 ≤ i.toInt + k) (h1 : i.toInt + k < L) (d0 : decode code pc = .ok (.aload_n 0, 1)) (d1 : decode code (pc + 1) = .ok (.iload_n 3, 1)) (d2 : decode code (pc + 2) = .ok (.iconst k, 1)) (d3 : decode code (pc + 3) = .ok (.iadd, 1)) (d4 : decode code (pc + 4) = .ok (.iaload, 1)) (kk : W p l e room_1 s m #[Value.ref b] below meth c H locs cells slots (lw_Z below #[Value.ref b] s) (F0 m (pc + 5) ls (.int (xs (i.toInt + k).toNat) :: st))) : W p l e room_1 s m #[Value.ref b] below meth c H locs cells slots (lw_Z below #[Value.ref b] s) (F0 m pc ls st) := by
  obtain ⟨hx, hb, hr, hml, hown, hts, hX, hbl, hlocks, hgv⟩ := C0
  refine lv_aload_n hx hb d0 rfl (lv_at hl 3 rfl) ?_
  refine lv_iload_n hx hb d1 rfl (lv_at hl 0 rfl) ?_
  refine lv_iconst (v := kv) hx hb d2 hk ?_
  refine i_add E rfl hkv (by omega) (by omega) d3 (fun z ez => ?_)
  refine va_sld hx hb hX hbl (Nat.not_le.mpr hbl) hS (vp_of ez h0 h1) d4 ?_
  rw [show z.toNatClampNeg = (i.toInt + k).toNat by rw [← ez]; rfl]
  exact kk
theorem law_one (C0 : lw_At p s m meth c b L xs) {H : Heap} {locs : List Loc} {ls : Array Slot} {k n : Nat} (hk : k ≤ 600000) (hn : n ≤ 7302250) (hS : va_S (fun q : Nat => s.heap.size ≤ q) s.heap H locs) : W p l e room_1 s m #[Value.ref b] below meth c H locs k n (lw_Z below #[Value.ref b] s) (F0 m 1575 ls []) := by
  obtain ⟨hx, hb, hr, hml, hown, hts, hX, hbl, hlocks, hgv⟩ := C0
  refine lv_iconst (v := 1) hx hb dL_law_1575 (by decide) ?_
  refine va_forget (fun q hq => hS.2.2 q hq) ?_
  refine W.widen hk hn ?_
  exact lw_ret hx hb hr hlocks dL_law_1576
end LAWROWS
theorem law_env {p : Program} {s : State} {m : MethodId} {meth : Method} {c : Code} {b L : Nat} {xs : Nat → Int32} (C0 : lw_At p s m meth c b L xs) : ∃ (D : va_G) (ct : Nat → ClassId) (tN : Nat), Ev p s m #[Value.ref b] c R_law 4 code D (TY ct) tN (fun q => s.heap.size ≤ q) := by
  obtain ⟨hx, hb, hr, hml, hown, hts, hX, hbl, hlocks, hgv⟩ := C0
  have hB : ∀ w ∈ BIG, w.before #[Value.ref b] s = true := fun w h => hts w (big_tbl h)
  have hg := flat_of_before _ hgv
  have HC : ∀ k : Nat, ∃ (cc : ClassId) (iS : Nat → Nat), ∀ q : vw_C, classes[k]? = some q → u_Kn s q.1 q.2.1 q.2.2 cc iS := by
    intro k
    match k with
    | 0 => obtain ⟨c0, i0, h0⟩ := u_known (C := RX0) (T := TX0) (N := 14) (n := 14) hB iX0 (hB _ w_20960fe7); exact ⟨c0, i0, fun q hq => by cases hq; exact h0⟩
    | 1 => obtain ⟨c0, i0, h0⟩ := u_known (C := RX1) (T := TX1) (N := 13) (n := 13) hB iX1 (hB _ w_77a10a06); exact ⟨c0, i0, fun q hq => by cases hq; exact h0⟩
    | 2 => obtain ⟨c0, i0, h0⟩ := u_known (C := RX2) (T := TX2) (N := 11) (n := 11) hB iX2 (hB _ w_5f3a33a0); exact ⟨c0, i0, fun q hq => by cases hq; exact h0⟩
    | 3 => obtain ⟨c0, i0, h0⟩ := u_known (C := RX3) (T := TX3) (N := 7) (n := 7) hB iX3 (hB _ w_e939d063); exact ⟨c0, i0, fun q hq => by cases hq; exact h0⟩
    | 4 => obtain ⟨c0, i0, h0⟩ := u_known (C := RX4) (T := TX4) (N := 8) (n := 8) hB iX4 (hB _ w_d84cfa56); exact ⟨c0, i0, fun q hq => by cases hq; exact h0⟩
    | 5 => obtain ⟨c0, i0, h0⟩ := u_known (C := RX5) (T := TX5) (N := 10) (n := 10) hB iX5 (hB _ w_8ea79d83); exact ⟨c0, i0, fun q hq => by cases hq; exact h0⟩
    | 6 => obtain ⟨c0, i0, h0⟩ := u_known (C := RX6) (T := TX6) (N := 14) (n := 14) hB iX6 (hB _ w_5ebb4376); exact ⟨c0, i0, fun q hq => by cases hq; exact h0⟩
    | 7 => obtain ⟨c0, i0, h0⟩ := u_known (C := RX7) (T := TX7) (N := 14) (n := 14) hB iX7 (hB _ w_05995ff5); exact ⟨c0, i0, fun q hq => by cases hq; exact h0⟩
    | 8 => obtain ⟨c0, i0, h0⟩ := u_known (C := RX8) (T := TX8) (N := 7) (n := 7) hB iX8 (hB _ w_4f7b6957); exact ⟨c0, i0, fun q hq => by cases hq; exact h0⟩
    | 9 => obtain ⟨c0, i0, h0⟩ := u_known (C := RX9) (T := TX9) (N := 6) (n := 6) hB iX9 (hB _ w_37061820); exact ⟨c0, i0, fun q hq => by cases hq; exact h0⟩
    | 10 => obtain ⟨c0, i0, h0⟩ := u_known (C := RX10) (T := TX10) (N := 3) (n := 3) hB iX10 (hB _ w_164bc0a7); exact ⟨c0, i0, fun q hq => by cases hq; exact h0⟩
    | 11 => obtain ⟨c0, i0, h0⟩ := u_known (C := RX11) (T := TX11) (N := 14) (n := 14) hB iX11 (hB _ w_1554fdbb); exact ⟨c0, i0, fun q hq => by cases hq; exact h0⟩
    | 12 => obtain ⟨c0, i0, h0⟩ := u_known (C := RX12) (T := TX12) (N := 96) (n := 96) hB iX12 (hB _ w_d57ff128); exact ⟨c0, i0, fun q hq => by cases hq; exact h0⟩
    | k + 13 => exact ⟨0, fun _ => 0, fun q hq => by simp [classes] at hq⟩
  obtain ⟨cI, kI, pI, fI, gI, eI⟩ := Cond.arrayClass_spec (hB _ w_e8e14353)
  obtain ⟨cB, kB, pB, fB, gB, eB⟩ := Cond.arrayClass_spec (hB _ w_db47154c)
  obtain ⟨cJ, kJ, pJ, fJ, gJ, eJ⟩ := Cond.arrayClass_spec (hB _ w_e8ffffe2)
  obtain ⟨cZ, kZ, pZ, fZ, gZ, eZ⟩ := Cond.arrayClass_spec (hB _ w_7d01f517)
  have hao := hts (.arrayOver (.object RX7)) (List.mem_of_getElem? (i := 296) (by decide +kernel))
  have haa := hts (.arrayOver (.array .int)) (List.mem_of_getElem? (i := 197) (by decide +kernel))
  obtain ⟨pR, cR, kR, r1, r2, r3, r4, r5⟩ := Cond.arrayOver_spec hao
  obtain ⟨pA, cA, kA, a1, a2, a3, a4, a5⟩ := arrayOverA_spec haa
  have harr : (Cond.arrayOf (.static RX11 "NOTHING" "[I") .int).before #[Value.ref b] s = true := hg _ (by decide +kernel)
  have hle0 : (Cond.eq (.length (.static RX11 "NOTHING" "[I")) (.int 0)).before #[Value.ref b] s = true := hg _ (by decide +kernel)
  obtain ⟨tN, hv, hT⟩ := va_Tof (N := 0) (f := fun _ => .int 0) (A := fun q => s.heap.size ≤ q) (by decide) harr (va_eqt hle0) (fun j hj => absurd hj (Nat.not_lt_zero j)) (fun a h => Nat.not_le.mpr h)
  have hZ := va_Zof (A := fun q => s.heap.size ≤ q) (hts (.laysStatic RX11 "NOTHING" "[I") (List.mem_of_getElem? (i := 326) (by decide +kernel))) (hB (.initialized RX11) w_93c426f0) hv (fun a h => Nat.not_le.mpr h)
  refine ⟨(fun k => (HC k).choose, fun k => (HC k).choose_spec.choose), fun k => match k with | 0 => cI | 1 => cB | 2 => cJ | 3 => cZ | 4 => cA | _ => cR, tN, ⟨hx, hb, hml, hown, hB⟩, ⟨⟨fun k q hq => (HC k).choose_spec.choose_spec q hq, fun k q hq => ?_⟩, ⟨fun q hq => ?_, fun q hq => ?_, hao, haa⟩, hZ, hT⟩, fun q h => h⟩
  · match k with
    | 0 => cases hq; exact ⟨fun n z => ⟨fun k h => (by cases h), kI, gI, pI, eI⟩, fI⟩
    | 1 => cases hq; exact ⟨fun n z => ⟨fun k h => (by cases h), kB, gB, pB, eB⟩, fB⟩
    | 2 => cases hq; exact ⟨fun n z => ⟨fun k h => (by cases h), kJ, gJ, pJ, eJ⟩, fJ⟩
    | 3 => cases hq; exact ⟨fun n z => ⟨fun k h => (by cases h), kZ, gZ, pZ, eZ⟩, fZ⟩
    | 4 => cases hq; exact ⟨fun n z => ⟨fun k h => (by cases h), kA, a3, pA, a4⟩, a5⟩
    | 5 => cases hq; exact ⟨fun n z => ⟨fun k h => (by cases h), kR, r3, pR, r4⟩, kR, pR, r3, r4, r1, r5⟩
    | k + 6 => simp [TY] at hq
  · simp only [NM, List.mem_cons, List.not_mem_nil, or_false] at hq
    rcases hq with rfl | rfl | rfl | rfl | rfl | rfl
    · exact va_Nw.of rfl (hts _ (List.mem_of_getElem? (i := 174) (by decide +kernel)))
    · exact va_Nw.of rfl (hts _ (List.mem_of_getElem? (i := 192) (by decide +kernel)))
    · exact va_Nw.of rfl (hts _ (List.mem_of_getElem? (i := 219) (by decide +kernel)))
    · exact va_Nw.of rfl (hts _ (List.mem_of_getElem? (i := 250) (by decide +kernel)))
    · exact va_Nw.of rfl (hts _ (List.mem_of_getElem? (i := 623) (by decide +kernel)))
    · exact va_Nw.of rfl (hts _ (List.mem_of_getElem? (i := 667) (by decide +kernel)))
  · simp only [NX, List.mem_cons, List.not_mem_nil, or_false] at hq
    rcases hq with rfl | rfl | rfl | rfl | rfl
    · exact va_Nw.of rfl (hts _ (List.mem_of_getElem? (i := 920) (by decide +kernel)))
    · exact va_Nw.of rfl (hts _ (List.mem_of_getElem? (i := 325) (by decide +kernel)))
    · exact va_Nw.of rfl (hts _ (List.mem_of_getElem? (i := 355) (by decide +kernel)))
    · exact va_Nw.of rfl (hts _ (List.mem_of_getElem? (i := 1027) (by decide +kernel)))
    · exact va_Nw.of rfl (hts _ (List.mem_of_getElem? (i := 903) (by decide +kernel)))
