/-! CLOSE, on both sides: both come to the same -/
section CLOSEZ
variable {u0 i1 i3 i4 i6 i7 i8 i9 i10 i11 i17 i18 i19 i20 i21 i22 i23 i24 j18 : Int32} {a7 a8 a13 a15 a18 a19 a20 a21 a22 a23 a24 a25 a29 a30 a31 a32 b2 b8 b10 b11 b12 b15 b16 b17 b18 b19 b20 b21 b22 b34 b35 b43 b44 b45 b46 b47 b48 b49 b50 b51 b52 b53 : Nat → Int32} {r9n : Nat → Nat} {r9c : Nat → Nat → Int32} {og : Nat → Nat → Int32}
theorem xcl_go {r : Nat} {V h x : Int32} {t : T8} (hx : x.toInt = 3 ∧ (F_x7_wouldGoOn V h r og).toInt = 0 ∨ x.toInt = 1 ∧ (F_x7_wouldGoOn V h r og).toInt ≠ 0 ∧ (F_x7_stage r og).toInt ≠ 1) : XCL u0 i1 i9 i10 i11 a21 a22 a23 a25 a29 a30 a31 a32 og r V h t = (x, i11, t.1, t.2.1, t.2.2.1, t.2.2.2.1, t.2.2.2.2.1, t.2.2.2.2.2.1, t.2.2.2.2.2.2.1, t.2.2.2.2.2.2.2, a29, a30, a31, a32, F_x7_enterState x r (F_x7_keepVote V h r og)) := by
  have en : ∀ (z : Int32) (o : Nat → Nat → Int32), F_x7_stateNumber r (F_x7_enterState z r o) = z := fun z o => by rw [E_x7_stateNumber, E_x7_enterState, up2_same]
  unfold XCL
  rcases hx with ⟨h1, h2⟩ | ⟨h1, h2, h3⟩
  · have e : x = (3 : Int32) := eq_of_toInt (by rw [h1]; rfl)
    subst e
    rw [if_pos h2, E_x11_close_j140, E_x11_close_j64, if_pos c0, E_x11_close_j67, if_pos c0, if_pos h2, en]
  · have e : x = (1 : Int32) := eq_of_toInt (by rw [h1]; rfl)
    subst e
    rw [if_neg h2, if_pos h3, E_x11_close_j140, E_x11_close_j64, if_pos c0, E_x11_close_j67, if_pos c0, if_neg h2, en]
theorem xcl_no {r : Nat} {V h : Int32} {t : T8} (h2 : (F_x7_wouldGoOn V h r og).toInt ≠ 0) (h3 : (F_x7_stage r og).toInt = 1) (hm : (F_x8_mayBeFixed (F_x7_verseNumber r og) (F_x6_restDays i9 t.2.2.2.1 a21 a22 a23 a25) i1 i10 a29 og).toInt = 0) : XCL u0 i1 i9 i10 i11 a21 a22 a23 a25 a29 a30 a31 a32 og r V h t = ((-1 : Int32), i11, t.1, t.2.1, t.2.2.1, t.2.2.2.1, t.2.2.2.2.1, t.2.2.2.2.2.1, t.2.2.2.2.2.2.1, t.2.2.2.2.2.2.2, a29, a30, a31, a32, og) := by
  unfold XCL
  rw [if_neg h2, if_neg (fun q => q h3), E_x11_close_j64, if_neg n10, if_neg (fun q => q hm)]
theorem xcl_fix {r : Nat} {V h o11 : Int32} {t : T8} {o29 o30 o31 o32 : Nat → Int32} {o : Nat → Nat → Int32} (h2 : (F_x7_wouldGoOn V h r og).toInt ≠ 0) (h3 : (F_x7_stage r og).toInt = 1) (hm : (F_x8_mayBeFixed (F_x7_verseNumber r og) (F_x6_restDays i9 t.2.2.2.1 a21 a22 a23 a25) i1 i10 a29 og).toInt ≠ 0) (hf : F_x8_fix u0 r i1 i10 i11 a29 a30 a31 a32 (F_x7_keepVote V h r og) = (o11, o29, o30, o31, o32, o)) : XCL u0 i1 i9 i10 i11 a21 a22 a23 a25 a29 a30 a31 a32 og r V h t = (o 7 r, o11, t.1, t.2.1, t.2.2.1, t.2.2.2.1, t.2.2.2.2.1, t.2.2.2.2.2.1, t.2.2.2.2.2.2.1, t.2.2.2.2.2.2.2, o29, o30, o31, o32, o) := by
  unfold XCL
  rw [if_neg h2, if_neg (fun q => q h3), E_x11_close_j64, if_neg n10, if_pos hm, E_x11_close_j67, if_neg n10, hf, E_x7_stateNumber]
set_option maxHeartbeats 4000000 in
theorem R_close (h1 : 0 ≤ i3.toInt ∧ i3.toInt ≤ 60) (h6 : 0 ≤ i6.toInt ∧ i6.toInt ≤ 6) (h7 : 0 ≤ i7.toInt ∧ i7.toInt ≤ 24) (h9 : 0 ≤ i9.toInt ∧ i9.toInt ≤ 20) (h10 : 0 ≤ i10.toInt ∧ i10.toInt ≤ 200) (h11 : i11.toInt < 1024) (hog : ∀ r : Nat, (r : Int) < i10.toInt → og 1 r = b34 r) (hV : VRS i3 a7 b2) (hP : PPL i6 a13 b8) (hD : VDS i8 b12) (hL : LAW i9 a18 a19 a20 a21 a22 a23 a24 a25 b15 b16 b17 b18 b19 b20 b21 b22) (hM : MEM i4 i6 i7 a15 b10 b11)
    (hS : RNS i3 i10 og b34 b35 b43) (hK : KEP i10 og b44 b45 b46) (hT : VOT i10 og b49 b50) (hC : CST i6 i7 i10 b2 b8 b10 b11 b34 b49) (hB : STD i10 b12 b35 b46 b47 b48 b49 b50) (hX : FXD i10 a29 b34 b35) (hE : TEL i10 i11 j18 a30 a31 a32 b51 b52 b53) (hE2 : TLV i3 i11 a30) :
    RCL i3 i10 b12 b34 b49 b50 og (F_x11_close u0 i1 i3 i4 i6 i8 i9 i10 i11 i17 i18 i19 i20 i21 i22 i23 i24 a7 a8 a13 a15 a18 a19 a20 a21 a22 a23 a25 a29 a30 a31 a32 r9n r9c og) (F_m12_close u0 i1 i6 i7 i9 i10 j18 b2 b8 b10 b11 b12 b15 b16 b17 b18 b19 b20 b21 b34 b35 b43 b44 b45 b46 b47 b48 b49 b50 b51 b52 b53) := by
  have keep : RSTT i3 i10 b12 b34 b49 b50 og i11 a29 a30 a31 a32 og j18 b35 b43 b44 b45 b46 b47 b48 b51 b52 b53 := ⟨hS, hK, hT, hB, hX, hE, hE2, fun _ _ _ => rfl⟩
  have no : ∀ q17 q18 q19 q20 q21 q22 q23 q24 : Int32, RCL i3 i10 b12 b34 b49 b50 og ((-1 : Int32), i11, q17, q18, q19, q20, q21, q22, q23, q24, a29, a30, a31, a32, og) ((-1 : Int32), j18, b35, b43, b44, b45, b46, b47, b48, b51, b52, b53) := fun _ _ _ _ _ _ _ _ => ⟨rfl, keep⟩
  rw [xclose, E_m12_close]
  rcases xat (u := u0) (i10 := i10) with ⟨a1, a⟩ | ⟨r, a1, a2, a⟩
  · rw [a, if_pos rfl, open_no h10.1 a1, if_neg n00]
    exact no _ _ _ _ _ _ _ _
  rw [a, if_neg (Nat.succ_ne_zero r), Nat.add_sub_cancel]
  obtain ⟨s7, s8, s1, s2, s3⟩ := hS.1 r a2
  rcases open_of h10.1 a1 a2 hS with ⟨o1, o2, o3⟩ | ⟨o1, o2, o3⟩
  · rw [o2, o3, if_pos y10, if_pos y10, nc a1]
    obtain ⟨t, ht, ht1⟩ : ∃ t : Nat, (b35 r).toInt = (t : Int) ∧ t ≤ 1 := ⟨(b35 r).toInt.toNat, by omega, by omega⟩
    obtain ⟨W, hW, hW2⟩ : ∃ W : Nat, (b34 r).toInt = (W : Int) ∧ W < 60 := ⟨(b34 r).toInt.toNat, by omega, by omega⟩
    have hst := st47 hS a2 o1
    have ek := (ix2 a1 ht (by omega) (by omega)).2
    generalize hz : ((2 : Int32) * u0) + b35 r = z11 at *
    have hVb : ∀ (S : Int32) (s : Nat), S.toInt = (s : Int) → (s : Int) < i7.toInt → (bitI (F_x11_votersOf r i3 i4 i6 i8 a7 a13 a15 og) s = true ↔ (F_m12_isOfStage S (b35 r) (b34 r) i6 b2 b8 b10 b11 b12).toInt ≠ 0) := fun S s e1 e2 => by
      rw [vot_bit e1 (by omega) (hog r a2) s7 s2 hV hP h6 hM hD]
      exact ⟨fun q => q.2, fun q => ⟨e2, q⟩⟩
    have hi7 : ∀ s : Nat, i7.toInt ≤ (s : Int) → bitI (F_x11_votersOf r i3 i4 i6 i8 a7 a13 a15 og) s = false := by
      intro s e
      by_cases w : 24 ≤ s
      · exact vot_hi w h6.2 hM
      · cases q : bitI (F_x11_votersOf r i3 i4 i6 i8 a7 a13 a15 og) s with
        | false => rfl
        | true => exact absurd ((vot_bit (S := Int32.ofNat s) (nI_toInt (by omega)) (by omega) (hog r a2) s7 s2 hV hP h6 hM hD).mp q).1 (by omega)
    generalize F_x11_votersOf r i3 i4 i6 i8 a7 a13 a15 og = V at hVb hi7 ⊢
    obtain ⟨n, y, e1, e2, e3⟩ := cl_count (p0 := u0) (i1 := i1) (i6 := i6) (i7 := i7) (i9 := i9) (i10 := i10) (j18 := j18) (b2 := b2) (b8 := b8) (b10 := b10) (b11 := b11) (b12 := b12) (b15 := b15) (b16 := b16) (b17 := b17) (b18 := b18) (b19 := b19) (b20 := b20) (b21 := b21) (b34 := b34) (b35 := b35) (b43 := b43) (b44 := b44) (b45 := b45) (b46 := b46) (b47 := b47) (b48 := b48) (b49 := b49) (b50 := b50) (b51 := b51) (b52 := b52) (b53 := b53) (z9 := b35 r) (z11 := z11) (z12 := b34 r) h7.2 hVb i7.toInt.toNat 25 0 0 0 0 0 0 c0 (by omega) (by omega) c0 c0 (Nat.le_refl 0) (Nat.le_refl 0)
    rw [e1]
    clear e1
    rw [ek] at e3
    have cut : ∀ g : Nat → Bool, (∀ s : Nat, i7.toInt ≤ (s : Int) → g s = false) → cr g 0 32 = cr g 0 i7.toInt.toNat := by
      intro g hg
      rw [show (32 : Nat) = i7.toInt.toNat + (32 - i7.toInt.toNat) by omega, cr_app, cr_none g _ (0 + i7.toInt.toNat) (fun i q1 q2 => hg i (by omega))]
      rfl
    have hbn : bitsF V = n := eq_of_toInt (by rw [(bits_cr V).1, cut _ hi7, e2]; simp only [Nat.zero_add])
    obtain ⟨q9, q10⟩ := hT.1 (2 * r + t) (by omega)
    have hby : bitsF (og 10 (2 * r + t) &&& V) = y := eq_of_toInt (by
      rw [(bits_cr _).1, q10, cr_congr (g := fun s => bitI (b50 (2 * r + t)) s && bitI V s) 32 0 (fun i _ _ => qI_and _ _ _), cut _ (fun s q => by rw [hi7 s q, Bool.and_false]), e3]; simp only [Nat.zero_add])
    by_cases wV : V.toInt = 0
    · have V0 : V = 0 := eq_of_toInt (by rw [wV]; rfl)
      have n0 : n.toInt = 0 := by
        rw [e2, V0, cr_none _ _ _ (fun i _ _ => qI_0 i)]
        rfl
      rw [if_neg (fun q => q wV)]
      unfold CLE2
      rw [if_neg (fun q => q n0)]
      exact no _ _ _ _ _ _ _ _
    · have n1 : n.toInt ≠ 0 := by
        intro n0
        apply wV
        have z := cr_zero (bitI V) i7.toInt.toNat 0 (by omega)
        have V0 : V = 0 := sI_ext (fun k hk => by
          rw [qI_0]
          by_cases q : (k : Int) < i7.toInt
          · rw [z k (Nat.zero_le _) (by omega)]
          · rw [hi7 k (by omega)])
        rw [V0]; rfl
      rw [if_pos wV]
      unfold CLE2
      rw [if_pos n1]
      clear wV n1
      -- the rules in force
      obtain ⟨v1, v2, v3⟩ := hV W (by omega)
      have ev : F_x7_verseNumber r og = b34 r := hog r a2
      have eb : F_x9_bookOf (b34 r) i3 a7 = b2 (b34 r).toNatClampNeg := by
        rcases xhas (u := b34 r) (i3 := i3) with ⟨_, h⟩ | ⟨g1, _⟩
        · rw [E_x9_bookOf, h, if_neg n10, nc hW, v1]
        · exact absurd s2 g1
      have ec : F_x4_companyOf (F_x9_bookOf (b34 r) i3 a7) i6 a13 = F_m12_companyOf (b34 r) i6 b2 b8 := by
        rw [eb]
        exact com_of hP (by rw [nc hW]; exact ⟨v2, v3⟩) h6
      obtain ⟨z20, x1, x2⟩ := aim_loop (v := b34 r) (day := i1) (i3 := i3) (i6 := i6) (v1 := F_x9_bookOf (b34 r) i3 a7) (v5 := F_x9_measureOf (b34 r) i3 a8) (b2 := b2) (b8 := b8) (r9n := r9n) (r9c := r9c) h9 hL i9.toInt.toNat 21 0 0 0 c0 (by omega) (by omega) (fun y y1 y2 => by omega) (fun j _ => qI_0 j)
      have ea : F_x6_aim (b34 r) i1 i3 i6 i9 a7 a8 a13 a18 a19 a20 a21 a22 a23 a25 r9n r9c = (b34 r, i1, F_m12_companyOf (b34 r) i6 b2 b8, z20, (F_x6_findCopy i3 i9 (b34 r) z20 a21 a22 a23 a25 r9n r9c).1, (F_x6_findCopy i3 i9 (b34 r) z20 a21 a22 a23 a25 r9n r9c).2, F_x9_bookOf (b34 r) i3 a7, F_x9_measureOf (b34 r) i3 a8) := by
        rw [E_x6_aim, ec]
        exact x1
      have hu : (F_x7_stage r og).toInt = 0 ∨ (F_x7_stage r og).toInt = 1 := by rw [hst]; omega
      have eh := hund_of (v := b34 r) (day := i1) (i6 := i6) (b2 := b2) (b8 := b8) hu h9 x2 hL
      have ed := days_of (v := b34 r) (day := i1) (i6 := i6) (b2 := b2) (b8 := b8) h9 x2 hL
      have hh := need_ok (u := b35 r) (v := b34 r) (day := i1) (i6 := i6) (b2 := b2) (b8 := b8) h9 x2 hL
      rw [hst] at eh
      rw [ev, ea]
      show RCL _ _ _ _ _ _ _ (XCL u0 i1 i9 i10 i11 a21 a22 a23 a25 a29 a30 a31 a32 og r V (F_x6_hundredths (F_x7_stage r og) i9 z20 a21 a22 a23 a25) _) _
      generalize htt : ((b34 r, i1, F_m12_companyOf (b34 r) i6 b2 b8, z20, (F_x6_findCopy i3 i9 (b34 r) z20 a21 a22 a23 a25 r9n r9c).1, (F_x6_findCopy i3 i9 (b34 r) z20 a21 a22 a23 a25 r9n r9c).2, F_x9_bookOf (b34 r) i3 a7, F_x9_measureOf (b34 r) i3 a8) : T8) = tt
      have ht4 : tt.2.2.2.1 = z20 := by rw [← htt]
      rw [hst, eh]
      generalize F_m12_neededAt (b35 r) (b34 r) i1 i6 i9 b2 b8 b15 b16 b17 b18 b19 b20 b21 = h at hh ⊢
      clear eh x1 ea ec eb
      have wg : F_x7_wouldGoOn V h r og = if ((100 : Int32) * y).toInt < (h * n).toInt then (0 : Int32) else (1 : Int32) := by
        rw [E_x7_wouldGoOn, E_x7_isEnough, hst, nc ht, hby, hbn]
      -- what is kept of the votes
      have KP : ∀ (y29 v31 : Int32) (c44 c45 c46 : Nat → Int32), ∃ A' B' : Nat → Int32, f_m12_close_j42 u0 i1 i6 i7 j18 b2 b8 b10 b11 b12 b35 b43 b49 b50 b51 b52 b53 (b35 r) z11 (b34 r) y29 v31 c44 c45 c46 25 (0 : Int32) (upd b47 (2 * r + t) (0 : Int32)) (upd b48 (2 * r + t) (0 : Int32)) = CLX u0 i1 j18 b35 b43 b51 b52 b53 (b35 r) (b34 r) y29 v31 c44 c45 c46 A' B' ∧ (∀ j, j ≠ 2 * r + t → A' j = b47 j ∧ B' j = b48 j) ∧ SB b12 (A' (2 * r + t)) (B' (2 * r + t)) (b49 (2 * r + t)) (b50 (2 * r + t)) := by
        intro y29 v31 c44 c45 c46
        obtain ⟨A', B', k1, k2, k3⟩ := cl_keep (p0 := u0) (i1 := i1) (i6 := i6) (i7 := i7) (j18 := j18) (b2 := b2) (b8 := b8) (b10 := b10) (b11 := b11) (b12 := b12) (b35 := b35) (b43 := b43) (b49 := b49) (b50 := b50) (b51 := b51) (b52 := b52) (b53 := b53) (z9 := b35 r) (z11 := z11) (z12 := b34 r) (y29 := y29) (v31 := v31) (c44 := c44) (c45 := c45) (c46 := c46) h7.2 hVb i7.toInt.toNat 25 0 0 (upd b47 (2 * r + t) (0 : Int32)) (upd b48 (2 * r + t) (0 : Int32)) c0 (by omega) (by omega)
        rw [ek] at k2 k3
        refine ⟨A', B', k1, fun j hj => ?_, fun s hs hs2 => ?_⟩
        · obtain ⟨m1, m2⟩ := k2 j hj
          rw [m1, m2, upd_n hj, upd_n hj]
          exact ⟨rfl, rfl⟩
        · obtain ⟨m1, m2⟩ := k3 s hs
          rw [upd_s, upd_s, qI_0] at *
          have own : bitI (b49 (2 * r + t)) s = true → (s : Int) < i7.toInt ∧ bitI V s = true := by
            intro hb
            obtain ⟨d1, d2⟩ := hC r s a2 hs
            have hsi : (s : Int) < i7.toInt ∧ (F_m12_isOfStage (Int32.ofNat s) (b35 r) (b34 r) i6 b2 b8 b10 b11 b12).toInt ≠ 0 := by
              have eS : (Int32.ofNat s).toInt = (s : Int) := nI_toInt (by omega)
              rw [E_m12_isOfStage, nc eS, if_neg (fun q => q hs2)]
              rcases (show t = 0 ∨ t = 1 by omega) with e | e
              · subst e
                obtain ⟨f1, f2⟩ := d1 hb
                rw [if_neg (fun q => q (by omega)), if_neg (fun q => q (co_uniq h6 f2).symm)]
                exact ⟨f1, y10⟩
              · subst e
                obtain ⟨f1, f2⟩ := d2 hb
                rw [if_pos (show (b35 r).toInt ≠ 0 by omega), if_neg f2]
                exact ⟨f1, y10⟩
            exact ⟨hsi.1, (hVb _ s (nI_toInt (by omega)) hsi.1).mpr hsi.2⟩
          have m1' : bitI (A' (2 * r + t)) s = true ↔ bitI (b49 (2 * r + t)) s = true := by
            rw [m1]
            exact ⟨fun q => q.elim (fun w => by cases w) (fun w => w.2.2.2), fun q => Or.inr ⟨Nat.zero_le _, (own q).1, (own q).2, q⟩⟩
          refine ⟨by cases p1 : bitI (A' (2 * r + t)) s <;> cases p2 : bitI (b49 (2 * r + t)) s <;> simp_all, fun q => ?_⟩
          have qb := m1'.mp q
          have m2' : bitI (B' (2 * r + t)) s = true ↔ bitI (b50 (2 * r + t)) s = true := by
            rw [m2]
            exact ⟨fun w => w.elim (fun z => by cases z) (fun z => z.2.2.2.2), fun w => Or.inr ⟨Nat.zero_le _, (own qb).1, (own qb).2, qb, w⟩⟩
          cases p1 : bitI (B' (2 * r + t)) s <;> cases p2 : bitI (b50 (2 * r + t)) s <;> simp_all
      have fo := fo_of (v := b34 r) hW hW2 h10 hX
      have one : (1 : Int32).toInt = 1 := c1
      have three : (3 : Int32).toInt = 3 := by decide
      -- no FIXED one is asked for
      have simple : ∀ (y29 x : Int32), ((y29.toInt = 0 ∧ x = (3 : Int32)) ∨ (y29.toInt ≠ 0 ∧ t = 0 ∧ x = (1 : Int32))) → ∃ c47 c48 : Nat → Int32, f_m12_close_j28 u0 i1 i6 i7 i9 i10 j18 b2 b8 b10 b11 b12 b15 b16 b17 b18 b19 b20 b34 b35 b43 b44 b45 b46 b47 b48 b49 b50 b51 b52 b53 (b35 r) z11 (b34 r) n y h y29 = (x, j18, upd b35 r x, b43, upd b44 (2 * r + t) y, upd b45 (2 * r + t) n, upd b46 (2 * r + t) h, c47, c48, b51, b52, b53) ∧ (∀ j, j ≠ 2 * r + t → c47 j = b47 j ∧ c48 j = b48 j) ∧ SB b12 (c47 (2 * r + t)) (c48 (2 * r + t)) (b49 (2 * r + t)) (b50 (2 * r + t)) := by
        intro y29 x hx
        obtain ⟨A', B', k1, k2, k3⟩ := KP y29 (a29 W) (upd b44 (2 * r + t) y) (upd b45 (2 * r + t) n) (upd b46 (2 * r + t) h)
        refine ⟨A', B', ?_, k2, k3⟩
        rw [E_m12_close_j28, fo, E_m12_close_j36, ek, k1]
        unfold CLX
        rcases hx with ⟨w1, w2⟩ | ⟨w1, w2, w3⟩
        · subst w2
          rw [if_pos w1, if_neg (fun q => q w1), E_m12_close_j49, nc a1, upd_s, if_pos (show (3 : Int32).toInt ≠ 2 by decide)]
        · subst w3
          rw [if_neg w1, if_pos (show (b35 r).toInt ≠ 1 by omega), if_pos w1, if_neg (fun q => q (show (b35 r).toInt = 0 by omega)), E_m12_close_j49, nc a1, upd_s, if_pos (show (1 : Int32).toInt ≠ 2 by decide)]
      by_cases wg2 : ((100 : Int32) * y).toInt < (h * n).toInt
      · rw [if_pos wg2] at wg ⊢
        obtain ⟨A', B', k1, k2, k3⟩ := simple (0 : Int32) (3 : Int32) (Or.inl ⟨c0, rfl⟩)
        rw [k1, xcl_go (x := (3 : Int32)) (Or.inl ⟨three, by rw [wg]; rfl⟩)]
        exact ⟨rfl, cl_state a2 h10.2 ht ht1 hst hS hK hT hB hX hE hE2 hh hby hbn (Or.inl three) k2 k3⟩
      · rw [if_neg wg2] at wg ⊢
        have w1 : (F_x7_wouldGoOn V h r og).toInt ≠ 0 := by rw [wg]; exact y10
        rcases (show t = 0 ∨ t = 1 by omega) with et | et
        · subst et
          obtain ⟨A', B', k1, k2, k3⟩ := simple (1 : Int32) (1 : Int32) (Or.inr ⟨y10, rfl, rfl⟩)
          rw [k1, xcl_go (x := (1 : Int32)) (Or.inr ⟨c1, w1, by rw [hst]; omega⟩)]
          exact ⟨rfl, cl_state a2 h10.2 ht ht1 hst hS hK hT hB hX hE hE2 hh hby hbn (Or.inr ⟨c1, rfl⟩) k2 k3⟩
        · subst et
          have stg : (F_x7_stage r og).toInt = 1 := by rw [hst]; omega
          obtain ⟨A', B', k1, k2, k3⟩ := KP (1 : Int32) (a29 W) (upd b44 (2 * r + 1) y) (upd b45 (2 * r + 1) n) (upd b46 (2 * r + 1) h)
          obtain ⟨o11, o29, o30, o31, o32, o, x1, x2', x3⟩ := cl_fix (u0 := u0) (i1 := i1) a2 h10.2 a1 (hog r a2) hW hW2 h11 ht hst hS hK hT hB hX hE hE2 hh hby hbn k2 k3
          have two : (2 : Int32).toInt = 2 := by decide
          -- the reference where it is FIXED
          have mf : f_m12_close_j36 u0 i1 i6 i7 j18 b2 b8 b10 b11 b12 b35 b43 b44 b45 b46 b47 b48 b49 b50 b51 b52 b53 (b35 r) z11 (b34 r) n y h (1 : Int32) (a29 W) = ((2 : Int32), (F_m12_tells (b34 r) u0 i1 j18 b51 b52 b53).1, (if (a29 W).toInt = -1 then upd b35 r (2 : Int32) else upd (upd b35 r (2 : Int32)) (a29 W).toNatClampNeg (4 : Int32)), upd b43 r i1, upd b44 (2 * r + 1) y, upd b45 (2 * r + 1) n, upd b46 (2 * r + 1) h, A', B', (F_m12_tells (b34 r) u0 i1 j18 b51 b52 b53).2.1, (F_m12_tells (b34 r) u0 i1 j18 b51 b52 b53).2.2.1, (F_m12_tells (b34 r) u0 i1 j18 b51 b52 b53).2.2.2) := by
            rw [E_m12_close_j36, ek, k1]
            unfold CLX
            rw [if_pos y10, if_pos (show (b35 r).toInt ≠ 0 by omega), E_m12_close_j49, nc a1, upd_s, if_neg (fun q => q two), E_m12_close_j68, E_m12_close_j68, nc a1]
            by_cases w : (a29 W).toInt = -1
            · rw [if_pos w, if_pos w, upd_s]
            · rw [if_neg w, if_neg w]
              have hq : (a29 W).toNatClampNeg ≠ r := by
                intro e
                rcases hX W hW2 with ⟨f1, -⟩ | ⟨p0, f1, f2, f3, f4, -⟩
                · exact w f1
                · rw [nc f2] at e; subst e; omega
              rw [upd_n hq.symm, upd_s]
          have ey : (b34 r) = F_x7_verseNumber r og := (hog r a2).symm
          rw [E_m12_close_j28, fo, if_neg n10, if_neg (fun q => q (show (b35 r).toInt = 1 by omega)), mf]
          have fx := fxa (a29 := a29) (b35 := b35) hW hW2 hX
          rcases fx with ⟨g1, g⟩ | ⟨q, g1, g2, g3, g4, g⟩
          · have mb : (F_x8_mayBeFixed (F_x7_verseNumber r og) (F_x6_restDays i9 z20 a21 a22 a23 a25) i1 i10 a29 og).toInt ≠ 0 := by
              rw [E_x8_mayBeFixed, ← ey, g, if_pos rfl]; exact y10
            rw [if_pos g1, xcl_fix (t := tt) w1 stg (by rw [ht4]; exact mb) x1, x2']
            exact ⟨rfl, x3⟩
          · have dq := (hS.1 q g1).2.1
            have emb : F_x8_mayBeFixed (F_x7_verseNumber r og) (F_x6_restDays i9 z20 a21 a22 a23 a25) i1 i10 a29 og = if (i1 - b43 q).toInt ≤ (F_m12_daysOf (b34 r) i1 i6 i9 b2 b8 b15 b16 b17 b18 b19 b20).toInt then (0 : Int32) else (1 : Int32) := by
              rw [E_x8_mayBeFixed, ← ey, g, if_neg (Nat.succ_ne_zero q), Nat.add_sub_cancel, E_x7_daysSinceFixed, dq, ed]
            rw [if_neg (show ¬ (a29 W).toInt = -1 by omega), nc g2]
            by_cases w : (i1 - b43 q).toInt > (F_m12_daysOf (b34 r) i1 i6 i9 b2 b8 b15 b16 b17 b18 b19 b20).toInt
            · have mb : (F_x8_mayBeFixed (F_x7_verseNumber r og) (F_x6_restDays i9 z20 a21 a22 a23 a25) i1 i10 a29 og).toInt ≠ 0 := by
                rw [emb, if_neg (by omega)]; exact y10
              rw [nc g2] at x3
              rw [if_pos w, xcl_fix (t := tt) w1 stg (by rw [ht4]; exact mb) x1, x2']
              exact ⟨rfl, x3⟩
            · have mb : (F_x8_mayBeFixed (F_x7_verseNumber r og) (F_x6_restDays i9 z20 a21 a22 a23 a25) i1 i10 a29 og).toInt = 0 := by
                rw [emb, if_pos (by omega)]; rfl
              rw [if_neg w, xcl_no (t := tt) w1 stg (by rw [ht4]; exact mb)]
              exact no _ _ _ _ _ _ _ _
  · rw [o2, o3, if_neg n00, if_neg n00]
    exact no _ _ _ _ _ _ _ _
end CLOSEZ
