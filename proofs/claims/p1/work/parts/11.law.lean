theorem dL_law_18 : decode cL_law 18 = .ok (.iload_n 3, 1) := by decide +kernel
theorem dL_law_19 : decode cL_law 19 = .ok (.aload_n 0, 1) := by decide +kernel
theorem dL_law_20 : decode cL_law 20 = .ok (.arraylength, 1) := by decide +kernel
theorem dL_law_21 : decode cL_law 21 = .ok (.bipush 6, 2) := by decide +kernel
theorem dL_law_23 : decode cL_law 23 = .ok (.isub, 1) := by decide +kernel
theorem dL_law_24 : decode cL_law 24 = .ok (.if_icmp .gt 1551, 3) := by decide +kernel
theorem dL_law_1569 : decode cL_law 1569 = .ok (.iinc 3 6, 3) := by decide +kernel
theorem dL_law_1572 : decode cL_law 1572 = .ok (.goto (-1554), 3) := by decide +kernel
theorem dL_law_1575 : decode cL_law 1575 = .ok (.iconst 1, 1) := by decide +kernel
theorem dL_law_1576 : decode cL_law 1576 = .ok (.ireturn, 1) := by decide +kernel
-- ===== end of PART A; then your names; then what follows =====
/-! THE CLAIM OUT OF ONE WALK OF THE LAW'S BODY. Your part is whole_start (and what it stands on); all else here is the same for every law, but numbers. -/
def R_law : String := "VerseCommitteeLaw"
def lw_P (b : Addr) (xs : List Int32) (args : Array Value) (s : State) : Prop := args = #[.ref b] ∧ s.IntsAt b xs ∧ xs.length ≤ 6 ∧ (Jvm.Cond.and given_1 narrow_1).before args s = true
def lw_Q (_ : Array Value) (s : State) (o : Outcome) (t : State) : Prop := o = .returned (some (.int 1)) ∧ Framed s o t [] 600000 7302250
def lw_Z (below : List Frame) (a : Array Value) (s : State) : State → Prop := fun t => ∃ o, t.status = .running ∧ Ended t below o ∧ lw_Q a s o t
/-- the law's own end, with 1 on the stack, nothing written that was there before, its room as the claim has it -/
theorem lw_ret {p : Program} {l : Launch} {e : Env} {s : State} {m : MethodId} {below : List Frame} {meth : Method} {c : Code} {b : Nat} (hx : p.tables.exec = Jvm.exec) (hb : c.code = code) (hr : meth.sig.returnType = ret) (hlocks : meth.locks = false) {pc : Nat} {H : Heap} {ls : Array Slot} (hdg : decode code pc = .ok (.ireturn, 1)) : W p l e room_1 s m #[Value.ref b] below meth c H [] 600000 7302250 (lw_Z below #[Value.ref b] s) (F0 m pc ls [.int 1]) := by
  intro T hT X
  obtain ⟨fs, hret, hrun, hended, hW, hframe⟩ := X.leave (v := some (.int 1)) (hlocks := hlocks) (fun h => by rw [hr] at h; cases h)
  have hmeth' : T.vm.method? m = some meth := X.method'
  refine ⟨T.setFrames fs, ?_, .returned (some (.int 1)), hrun, hended, rfl, ⟨_, rfl⟩, hW, hframe⟩
  jvm_step X.here [X.here.top, hx, hb, hdg, hmeth', hr, ret, narrow_b1]
  (try refine ⟨rfl, ?_⟩); (try refine ⟨rfl, ?_⟩)
  first | (intro acts; rw [hret _ acts rfl rfl rfl]) | rw [hret _ _ rfl rfl rfl]
  exact Steps.refl _
/-- what holds at the law's entry: the machine, the code, the tables' words (any of lw_tbl by 'hts w (by decide +kernel)'), the script of L ints xs at the cell b, what the Statement gives of the start (any of its parts by flat_of_before) -/
def lw_At (p : Program) (s : State) (m : MethodId) (meth : Method) (c : Code) (b L : Nat) (xs : Nat → Int32) : Prop :=
  p.tables.exec = Jvm.exec ∧ c.code = code ∧ meth.sig.returnType = ret ∧ c.maxLocals = 4 ∧ s.vm.findClass R_law = some m.cls ∧ (∀ w ∈ lw_tbl, w.before #[Value.ref b] s = true) ∧ va_X b L xs s s.heap ∧ b < s.heap.size ∧ meth.locks = false ∧ (Jvm.Cond.and given_1 narrow_1).before #[Value.ref b] s = true

def iv0 : Nat → Int32 := fun _ => 0
def iaX : Nat → Nat → Int32 := fun k _ => if k = 29 then -1 else 0
def ia0 : Nat → Nat → Int32 := fun _ _ => 0
def la0 : Nat → Nat → Int64 := fun _ _ => 0
def ra0 : Nat → Nat → Option Nat := fun _ _ => none
def ptN (t : Nat) : Nat → Option Nat := fun _ => some t
theorem iv0_z (k : Nat) : (iv0 k).toInt = 0 := tI_0
theorem ia0_z (k : Nat) : ∀ j, (ia0 k j).toInt = 0 := fun _ => tI_0
theorem iaX_29 : ∀ j, (iaX 29 j).toInt = -1 := fun _ => tI_m1
theorem iaX_51 : ∀ j, (iaX 51 j).toInt = 0 := fun _ => tI_0
theorem la0_46 : ∀ j, la0 46 j = 0 := fun _ => rfl
theorem xw_of (ct : Nat → ClassId) (tN h : Nat) (u : Nat → Nat) : WI11 ct tN [] h u = XW ct (fun k => if k = 0 then h else u (k - 1)) iv0 iaX la0 (ptN tN) ra0 [] := rfl
theorem mw_of (ct : Nat → ClassId) (tN h : Nat) (u : Nat → Nat) (ws : va_W) : WI12 ct tN ws h u = ws ++ MW ct (fun k => if k = 0 then h else u (k - 1)) iv0 ia0 [] := rfl
theorem rest_apart {A0 : Nat → Prop} {D : va_G} {wc wr : va_W} {H : Heap} (hP : va_P D classes (wc ++ wr) H) (hD : va_D A0 (wc ++ wr)) : ∀ (k : Nat) (q : Nat × va_E), wr[k]? = some q → q.1 < H.size ∧ ¬ va_A wc H.size q.1 := by
  intro k q hq
  have h2 : (wc ++ wr)[wc.length + k]? = some q := (at_p wc wr k).trans hq
  have hl := (hP _ q h2).lt
  refine ⟨hl, fun h => ?_⟩
  rcases h with ⟨k2, e, h⟩ | h
  · have hk2 := (List.getElem?_eq_some_iff.mp h).1
    have h4 : (wc ++ wr)[k2]? = some (q.1, e) := by rw [List.getElem?_append_left hk2]; exact h
    have := hD.1 _ _ q (q.1, e) h2 h4 rfl
    omega
  · omega
theorem join_app {A0 : Nat → Prop} {D : va_G} {wc wr w1 : va_W} {H H1 : Heap} (hP : va_P D classes (wc ++ wr) H) (hD : va_D A0 (wc ++ wr)) (hk : ∀ q : Nat, q < H.size → ¬ va_A wc H.size q → H1[q]? = H[q]?) (hF : ∀ q, va_A wc H.size q → A0 q) (hP1 : va_P D classes w1 H1) (hD1 : va_D (va_A wc H.size) w1) : va_P D classes (w1 ++ wr) H1 ∧ va_D A0 (w1 ++ wr) := by
  have ap := rest_apart hP hD
  refine ⟨hP1.app (fun k q hq => ?_), (hD1.weaken (fun k q _ h => hF q.1 h)).app ⟨fun i j x y hx hy hxy => ?_, fun k q hq => ?_⟩ (fun i j x y hx hy hxy => ?_)⟩
  · have h2 : (wc ++ wr)[wc.length + k]? = some q := (at_p wc wr k).trans hq
    obtain ⟨g1, g2⟩ := ap k q hq
    exact (hP _ q h2).kept (hk q.1 g1 g2)
  · have := hD.1 _ _ x y ((at_p wc wr i).trans hx) ((at_p wc wr j).trans hy) hxy
    omega
  · exact hD.2 _ q ((at_p wc wr k).trans hq)
  · exact (ap j y hy).2 (by rw [← hxy]; exact hD1.2 i x hx)
theorem Hp.left {D : va_G} {A : Nat → Prop} {H0 H : Heap} {locs : List Loc} {wc wr : va_W} (B : Hp D A H0 (wc ++ wr) H locs) : Hp D A H0 wc H locs := by
  have h : ∀ (k : Nat) (q : Nat × va_E), wc[k]? = some q → (wc ++ wr)[k]? = some q := fun k q hk => by rw [List.getElem?_append_left (List.getElem?_eq_some_iff.mp hk).1]; exact hk
  exact ⟨fun k q hk => B.1 k q (h k q hk), ⟨fun i j x y hx hy hxy => B.2.1.1 i j x y (h i x hx) (h j y hy) hxy, fun k q hk => B.2.1.2 k q (h k q hk)⟩, B.2.2⟩
theorem Hp.rot {D : va_G} {A : Nat → Prop} {H0 H : Heap} {locs : List Loc} {a b : va_W} (B : Hp D A H0 (a ++ b) H locs) : Hp D A H0 (b ++ a) H locs := by
  have h : Hp D A H0 (([] ++ a) ++ b) H locs := B
  have h2 : Hp D A H0 (([] ++ b) ++ a) H locs := ⟨h.1.swap, h.2.1.swap, h.2.2⟩
  exact h2
section LAWCALL
variable {p : Program} {l : Launch} {e : Env} {R : Room} {s : State} {m : MethodId} {args : Array Value} {below : List Frame} {meth : Method} {c : Code} {H : Heap} {locs : List Loc} {cells slots : Nat} {Q : State → Prop}
variable {cc : ByteArray} {pc : Nat} {ls : Array Slot} {rest st As : List Value} {D : va_G} {T : List (ClassId × FieldType)} {A : Nat → Prop} {wc wr : va_W} {own C : String} {nL tN : Nat} {S : Type} {y : MethodName} {b : ByteArray} {n k kn idx mc ms a : Nat} {r : Option FieldType} {rm : Room} {W' : S → va_W} {TT : u_T} {NN : Nat} {lv : List (Nat × Value)}
theorem call_VIf {post : Int32 → S → Prop} (E : Ev p s m args c own nL cc D T tN A) (B : Hp D A s.heap (wc ++ wr) H locs) (M : MI l D T tN y b n r rm (.ref a :: As) wc post W' mc ms) (G : GoodIn BIG (wsV own idx C y (WS y b n r))) (q0 : Nat) {ci : Nat} {fs : List Value} (he : wc[q0]? = some (a, .inr (ci, fs))) (hc : classes[ci]? = some (C, TT, NN))
    (hd : y.cls = C ∧ y.cls ≠ "java/lang/invoke/MethodHandle" ∧ y.cls ≠ "java/lang/invoke/VarHandle" ∧ (parseMethodDescriptor y.desc).map (fun d => d.parameters.length) = some kn) (hkn : As.length = kn) (hrc : rm.cells = mc) (hrs : rm.slots = ms) (hR : rm.frames + 1 ≤ R.frames ∧ 8 + (n + 11) + rm.locals ≤ R.locals) (hst : st = As.reverse ++ .ref a :: rest) (hls : lv_has ls nL lv) (hroom : (rest.map fun v => v.category).sum ≤ 8) (hdg : decode cc pc = .ok (.invokevirtual idx, 3)) (hf : cells + mc ≤ R.cells ∧ slots + ms ≤ R.slots)
    (kk : ∀ (v : Int32) (u : S) (H1 : Heap) (locs1 : List Loc), post v u → Hp D A s.heap (W' u ++ wr) H1 locs1 → W p l e R s m args below meth c H1 locs1 (cells + mc) (slots + ms) Q (F0 m (pc + 3) ls (.int v :: rest))) : W p l e R s m args below meth c H locs cells slots Q (F0 m pc ls st) := by
  subst hkn
  have hF := B.left.free E.2.2
  refine va_calli (va_runV (As := As) (rest := rest) E.1 (M H.size) (cwV As.length E.1.2.2.2.2 G rfl hrc hrs hd hR) (preV E B.left q0 he hc) rfl rfl hls.1 hst (lv_room hroom) hdg hf) B.2.2 (fun q _ h => hF q h) hF ?_
  intro v u t H1 locs1 ht hvm hw hB hz1 hk1 hS
  obtain ⟨j1, j2⟩ := join_app B.1 B.2.1 hk1 hF (by rw [← ht]; exact hB.1) hB.2
  exact kk v u H1 locs1 hw ⟨j1, j2, hS⟩
end LAWCALL
theorem law_one {p : Program} {l : Launch} {e : Env} {s : State} {m : MethodId} {below : List Frame} {meth : Method} {c : Code} {b : Nat} {xs : Nat → Int32} {L : Nat} (C0 : lw_At p s m meth c b L xs) {ws : va_W} {D : va_G} {H : Heap} {locs : List Loc} {ls : Array Slot} {k n : Nat} (hk : k ≤ 600000) (hn : n ≤ 7302250) (B : Hp D (fun q : Nat => s.heap.size ≤ q) s.heap ws H locs) : W p l e room_1 s m #[Value.ref b] below meth c H locs k n (lw_Z below #[Value.ref b] s) (F0 m 1575 ls []) := by
  obtain ⟨hx, hb, hr, hml, hown, hts, hX, hbl, hlocks, hgv⟩ := C0
  refine lv_iconst (v := 1) hx hb dL_law_1575 (by decide) ?_
  refine va_forget (fun q hq => B.2.2.2.2 q hq) ?_
  refine W.widen hk hn ?_
  exact lw_ret hx hb hr hlocks dL_law_1576
theorem law_top {p : Program} {l : Launch} {e : Env} {s : State} {m : MethodId} {below : List Frame} {meth : Method} {c : Code} {b : Nat} {xs : Nat → Int32} {L : Nat} (C0 : lw_At p s m meth c b L xs) {ws : va_W} {D : va_G} {H : Heap} {locs : List Loc} {ls : Array Slot} {k n h1 h2 : Nat} {x3 : Int32} (hk : k ≤ 600000) (hn : n ≤ 7302250) (B : Hp D (fun q : Nat => s.heap.size ≤ q) s.heap ws H locs) (hl : lv_has ls 4 [(3, .int x3), (2, .ref h2), (1, .ref h1), (0, .ref b)]) (hL : L ≤ 6) (hgt : (L : Int) - 6 < x3.toInt) : W p l e room_1 s m #[Value.ref b] below meth c H locs k n (lw_Z below #[Value.ref b] s) (F0 m 18 ls []) := by
  obtain ⟨hx, hb, hr, hml, hown, hts, hX, hbl, hlocks, hgv⟩ := id C0
  have hbA : ¬ (fun q : Nat => s.heap.size ≤ q) b := Nat.not_le.mpr hbl
  refine lv_iload_n hx hb dL_law_18 rfl (lv_at hl 0 rfl) ?_
  refine lv_aload_n hx hb dL_law_19 rfl (lv_at hl 3 rfl) ?_
  refine va_slen hx hb hX hbl hbA B.2.2 dL_law_20 ?_
  refine lv_bipush (v := 6) hx hb dL_law_21 (by decide) ?_
  refine lv_isub hx hb dL_law_23 ?_
  have e1 : (Int32.ofNat L - 6).toInt = (L : Int) - 6 := by
    rcases (show L = 0 ∨ L = 1 ∨ L = 2 ∨ L = 3 ∨ L = 4 ∨ L = 5 ∨ L = 6 by omega) with rfl | rfl | rfl | rfl | rfl | rfl | rfl <;> decide
  refine lv_icmp_gt (tgt := 1575) hx hb dL_law_24 (by decide) (fun q => law_one C0 hk hn B) (fun q => ?_)
  exact absurd (Int32.lt_iff_toInt_lt.mpr (by rw [e1]; exact hgt)) q
theorem law_end {p : Program} {l : Launch} {e : Env} {s : State} {m : MethodId} {below : List Frame} {meth : Method} {c : Code} {b : Nat} {xs : Nat → Int32} (C0 : lw_At p s m meth c b 6 xs) {ws : va_W} {D : va_G} {H : Heap} {locs : List Loc} {ls : Array Slot} {k n h1 h2 : Nat} (hk : k ≤ 600000) (hn : n ≤ 7302250) (B : Hp D (fun q : Nat => s.heap.size ≤ q) s.heap ws H locs) (hl : lv_has ls 4 [(3, .int 0), (2, .ref h2), (1, .ref h1), (0, .ref b)]) : W p l e room_1 s m #[Value.ref b] below meth c H locs k n (lw_Z below #[Value.ref b] s) (F0 m 1569 ls []) := by
  obtain ⟨hx, hb, hr, hml, hown, hts, hX, hbl, hlocks, hgv⟩ := id C0
  refine lv_iinc (v := 6) (lv' := [(3, .int 6), (2, .ref h2), (1, .ref h1), (0, .ref b)]) hx hb dL_law_1569 hl (k := 0) rfl (by decide) (by decide) rfl (fun ls hl => ?_)
  refine lv_goto (tgt := 18) hx hb dL_law_1572 (by decide) ?_
  exact law_top C0 hk hn B hl (Nat.le_refl 6) (by decide)
theorem law_env {p : Program} {s : State} {m : MethodId} {meth : Method} {c : Code} {b L : Nat} {xs : Nat → Int32} (C0 : lw_At p s m meth c b L xs) : ∃ (D : va_G) (ct : Nat → ClassId) (tN : Nat), Ev p s m #[Value.ref b] c R_law 4 code D (TY ct) tN (fun q => s.heap.size ≤ q) := by
  obtain ⟨hx, hb, hr, hml, hown, hts, hX, hbl, hlocks, hgv⟩ := C0
  have hB : ∀ w ∈ BIG, w.before #[Value.ref b] s = true := fun w h => hts w (big_tbl h)
  have hg := flat_of_before _ hgv
  have HC : ∀ k : Nat, ∃ (cc : ClassId) (iS : Nat → Nat), ∀ q : vw_C, classes[k]? = some q → u_Kn s q.1 q.2.1 q.2.2 cc iS := by
    intro k
    match k with
    | 0 => obtain ⟨c0, i0, h0⟩ := u_known (C := RX0) (T := TX0) (N := 14) (n := 14) hB iX0 (hB _ mw_299); exact ⟨c0, i0, fun q hq => by cases hq; exact h0⟩
    | 1 => obtain ⟨c0, i0, h0⟩ := u_known (C := RX1) (T := TX1) (N := 13) (n := 13) hB iX1 (hB _ mw_252); exact ⟨c0, i0, fun q hq => by cases hq; exact h0⟩
    | 2 => obtain ⟨c0, i0, h0⟩ := u_known (C := RX2) (T := TX2) (N := 11) (n := 11) hB iX2 (hB _ mw_101); exact ⟨c0, i0, fun q hq => by cases hq; exact h0⟩
    | 3 => obtain ⟨c0, i0, h0⟩ := u_known (C := RX3) (T := TX3) (N := 7) (n := 7) hB iX3 (hB _ mw_172); exact ⟨c0, i0, fun q hq => by cases hq; exact h0⟩
    | 4 => obtain ⟨c0, i0, h0⟩ := u_known (C := RX4) (T := TX4) (N := 8) (n := 8) hB iX4 (hB _ mw_70); exact ⟨c0, i0, fun q hq => by cases hq; exact h0⟩
    | 5 => obtain ⟨c0, i0, h0⟩ := u_known (C := RX5) (T := TX5) (N := 10) (n := 10) hB iX5 (hB _ mw_349); exact ⟨c0, i0, fun q hq => by cases hq; exact h0⟩
    | 6 => obtain ⟨c0, i0, h0⟩ := u_known (C := RX6) (T := TX6) (N := 14) (n := 14) hB iX6 (hB _ mw_202); exact ⟨c0, i0, fun q hq => by cases hq; exact h0⟩
    | 7 => obtain ⟨c0, i0, h0⟩ := u_known (C := RX7) (T := TX7) (N := 14) (n := 14) hB iX7 (hB _ mw_874); exact ⟨c0, i0, fun q hq => by cases hq; exact h0⟩
    | 8 => obtain ⟨c0, i0, h0⟩ := u_known (C := RX8) (T := TX8) (N := 7) (n := 7) hB iX8 (hB _ mw_142); exact ⟨c0, i0, fun q hq => by cases hq; exact h0⟩
    | 9 => obtain ⟨c0, i0, h0⟩ := u_known (C := RX9) (T := TX9) (N := 6) (n := 6) hB iX9 (hB _ mw_43); exact ⟨c0, i0, fun q hq => by cases hq; exact h0⟩
    | 10 => obtain ⟨c0, i0, h0⟩ := u_known (C := RX10) (T := TX10) (N := 3) (n := 3) hB iX10 (hB _ mw_25); exact ⟨c0, i0, fun q hq => by cases hq; exact h0⟩
    | 11 => obtain ⟨c0, i0, h0⟩ := u_known (C := RX11) (T := TX11) (N := 14) (n := 14) hB iX11 (hB _ mw_17); exact ⟨c0, i0, fun q hq => by cases hq; exact h0⟩
    | 12 => obtain ⟨c0, i0, h0⟩ := u_known (C := RX12) (T := TX12) (N := 96) (n := 96) hB iX12 (hB _ mw_1471); exact ⟨c0, i0, fun q hq => by cases hq; exact h0⟩
    | k + 13 => exact ⟨0, fun _ => 0, fun q hq => by simp [classes] at hq⟩
  obtain ⟨cI, kI, pI, fI, gI, eI⟩ := Cond.arrayClass_spec (hB _ mw_40)
  obtain ⟨cB, kB, pB, fB, gB, eB⟩ := Cond.arrayClass_spec (hB _ mw_41)
  obtain ⟨cJ, kJ, pJ, fJ, gJ, eJ⟩ := Cond.arrayClass_spec (hB _ mw_297)
  obtain ⟨cZ, kZ, pZ, fZ, gZ, eZ⟩ := Cond.arrayClass_spec (hB _ mw_347)
  have hao := hts (.arrayOver (.object RX7)) (List.mem_of_getElem? (i := 296) (by decide +kernel))
  have haa := hts (.arrayOver (.array .int)) (List.mem_of_getElem? (i := 197) (by decide +kernel))
  obtain ⟨pR, cR, kR, r1, r2, r3, r4, r5⟩ := Cond.arrayOver_spec hao
  obtain ⟨pA, cA, kA, a1, a2, a3, a4, a5⟩ := arrayOverA_spec haa
  have harr : (Cond.arrayOf (.static RX11 "NOTHING" "[I") .int).before #[Value.ref b] s = true := hg _ (by decide +kernel)
  have hle0 : (Cond.eq (.length (.static RX11 "NOTHING" "[I")) (.int 0)).before #[Value.ref b] s = true := hg _ (by decide +kernel)
  obtain ⟨tN, hv, hT⟩ := va_Tof (N := 0) (f := fun _ => .int 0) (A := fun q => s.heap.size ≤ q) (by decide) harr (va_eqt hle0) (fun j hj => absurd hj (Nat.not_lt_zero j)) (fun a h => Nat.not_le.mpr h)
  have hZ := va_Zof (A := fun q => s.heap.size ≤ q) (hts (.laysStatic RX11 "NOTHING" "[I") (List.mem_of_getElem? (i := 326) (by decide +kernel))) (hB (.initialized RX11) mw_1) hv (fun a h => Nat.not_le.mpr h)
  refine ⟨(fun k => (HC k).choose, fun k => (HC k).choose_spec.choose), fun k => match k with | 0 => cI | 1 => cB | 2 => cJ | 3 => cZ | 4 => cA | _ => cR, tN, ⟨hx, hb, hml, hown, hB⟩, ⟨⟨fun k q hq => (HC k).choose_spec.choose_spec q hq, fun k q hq => ?_⟩, ⟨fun q hq => ?_, fun q hq => ?_, hao, haa⟩, hZ, hT⟩, fun q h => h⟩
  · match k with
    | 0 => cases hq; exact ⟨fun n z => ⟨fun k h => (by cases h), kI, gI, pI, eI⟩, fI⟩
    | 1 => cases hq; exact ⟨fun n z => ⟨fun k h => (by cases h), kB, gB, pB, eB⟩, fB⟩
    | 2 => cases hq; exact ⟨fun n z => ⟨fun k h => (by cases h), kJ, gJ, pJ, eJ⟩, fJ⟩
    | 3 => cases hq; exact ⟨fun n z => ⟨fun k h => (by cases h), kZ, gZ, pZ, eZ⟩, fZ⟩
    | 4 => cases hq; exact ⟨fun n z => ⟨fun k h => (by cases h), kA, a3, pA, a4⟩, a5⟩
    | 5 => cases hq; exact ⟨fun n z => ⟨fun k h => (by cases h), kR, r3, pR, r4⟩, kR, pR, r3, r4, r1, r5⟩
    | k + 6 => simp [TY] at hq
  · simp only [NM, List.mem_cons, List.not_mem_nil, or_false] at hq
    rcases hq with rfl | rfl | rfl | rfl | rfl | rfl
    · exact va_Nw.of rfl (hts _ (List.mem_of_getElem? (i := 174) (by decide +kernel)))
    · exact va_Nw.of rfl (hts _ (List.mem_of_getElem? (i := 192) (by decide +kernel)))
    · exact va_Nw.of rfl (hts _ (List.mem_of_getElem? (i := 219) (by decide +kernel)))
    · exact va_Nw.of rfl (hts _ (List.mem_of_getElem? (i := 250) (by decide +kernel)))
    · exact va_Nw.of rfl (hts _ (List.mem_of_getElem? (i := 623) (by decide +kernel)))
    · exact va_Nw.of rfl (hts _ (List.mem_of_getElem? (i := 667) (by decide +kernel)))
  · simp only [NX, List.mem_cons, List.not_mem_nil, or_false] at hq
    rcases hq with rfl | rfl | rfl | rfl | rfl
    · exact va_Nw.of rfl (hts _ (List.mem_of_getElem? (i := 920) (by decide +kernel)))
    · exact va_Nw.of rfl (hts _ (List.mem_of_getElem? (i := 325) (by decide +kernel)))
    · exact va_Nw.of rfl (hts _ (List.mem_of_getElem? (i := 355) (by decide +kernel)))
    · exact va_Nw.of rfl (hts _ (List.mem_of_getElem? (i := 1027) (by decide +kernel)))
    · exact va_Nw.of rfl (hts _ (List.mem_of_getElem? (i := 903) (by decide +kernel)))
