/-! whether a CLAUSE holds: both sides alike -/
def MES (i3 : Int32) (a8 b3 : Nat → Int32) : Prop := ∀ v : Nat, (v : Int) < i3.toInt → a8 v = b3 v
section HLD
variable {u0 u1 i3 i6 i9 : Int32} {a7 a8 a13 a18 a19 a20 a21 a22 a23 a24 a25 a26 b2 b3 b4 b5 b8 b15 b16 b17 b18 b19 b20 b21 b22 b23 b24 b25 b26 : Nat → Int32} {r9n rtn : Nat → Nat} {r9c rtc : Nat → Nat → Int32}
/-- aimed at a VERSE and a DAY -/
theorem aim_of {w : Nat} (hw : u0.toInt = (w : Int)) (hw2 : (w : Int) < i3.toInt) (hv : 0 ≤ i3.toInt ∧ i3.toInt ≤ 60) (h6 : 0 ≤ i6.toInt ∧ i6.toInt ≤ 6) (h9 : 0 ≤ i9.toInt ∧ i9.toInt ≤ 20) (hV : VRS i3 a7 b2) (hM : MES i3 a8 b3) (hP : PPL i6 a13 b8) (hL : LAW i9 a18 a19 a20 a21 a22 a23 a24 a25 b15 b16 b17 b18 b19 b20 b21 b22) (hK : KI i9 b18 b19 b20 b21 b22) (hR : RWS r9n r9c b4 b5) :
    ∃ z20 : Int32, FRC u0 u1 i6 i9 b2 b8 b15 b16 b17 z20 ∧ F_x6_aim u0 u1 i3 i6 i9 a7 a8 a13 a18 a19 a20 a21 a22 a23 a25 r9n r9c = (u0, u1, F_m12_companyOf u0 i6 b2 b8, z20, F_m12_copyOf u0 u1 i6 i9 b2 b4 b8 b15 b16 b17 b18 b19 b20 b21, F_m12_tokensOf u0 u1 i6 i9 b2 b4 b8 b15 b16 b17 b18 b19 b20 b21, b2 u0.toNatClampNeg, b3 u0.toNatClampNeg) := by
  have h : F_x9_has u0 i3 = 1 := by
    rcases xhas (u := u0) (i3 := i3) with ⟨_, h⟩ | ⟨h1, _⟩
    · exact h
    · omega
  obtain ⟨v1, v2, v3⟩ := hV w hw2
  have eb : F_x9_bookOf u0 i3 a7 = b2 u0.toNatClampNeg := by
    rw [E_x9_bookOf, h, if_neg n10, nc hw, v1]
  have em : F_x9_measureOf u0 i3 a8 = b3 u0.toNatClampNeg := by
    rw [E_x9_measureOf, h, if_neg n10, nc hw, hM w hw2]
  have ec : F_x4_companyOf (F_x9_bookOf u0 i3 a7) i6 a13 = F_m12_companyOf u0 i6 b2 b8 := by
    rw [eb]
    exact com_of hP (by rw [nc hw]; exact ⟨v2, v3⟩) h6
  obtain ⟨z20, q1, q2⟩ := aim_loop (v := u0) (day := u1) (i3 := i3) (i6 := i6) (v1 := F_x9_bookOf u0 i3 a7) (v5 := F_x9_measureOf u0 i3 a8) (b2 := b2) (b8 := b8) (r9n := r9n) (r9c := r9c) h9 hL i9.toInt.toNat 21 0 0 0 c0 (by omega) (by omega) (fun y y1 y2 => by omega) (fun j _ => qI_0 j)
  have ea : F_x6_aim u0 u1 i3 i6 i9 a7 a8 a13 a18 a19 a20 a21 a22 a23 a25 r9n r9c = (u0, u1, F_m12_companyOf u0 i6 b2 b8, z20, (F_x6_findCopy i3 i9 u0 z20 a21 a22 a23 a25 r9n r9c).1, (F_x6_findCopy i3 i9 u0 z20 a21 a22 a23 a25 r9n r9c).2, F_x9_bookOf u0 i3 a7, F_x9_measureOf u0 i3 a8) := by
    rw [E_x6_aim, ec]
    exact q1
  have CP := copy_of (day := u1) (i6 := i6) (b2 := b2) (b8 := b8) hw hw2 hv.2 h9 q2 hL hK hR
  have et : (F_x6_findCopy i3 i9 u0 z20 a21 a22 a23 a25 r9n r9c).2 = F_m12_tokensOf u0 u1 i6 i9 b2 b4 b8 b15 b16 b17 b18 b19 b20 b21 := by
    obtain ⟨i0, i1, i2⟩ := idx3c hw (by omega)
    obtain ⟨_, cp⟩ := CP
    rw [E_m12_tokensOf, i0, i1, i2]
    clear i0 i1 i2 ea eb ec em q1 q2
    generalize F_m12_copyOf u0 u1 i6 i9 b2 b4 b8 b15 b16 b17 b18 b19 b20 b21 = r at cp ⊢
    generalize (F_x6_findCopy i3 i9 u0 z20 a21 a22 a23 a25 r9n r9c).2 = rr at cp ⊢
    rcases cp with ⟨p1, p2⟩ | ⟨p1, p2, _⟩ | ⟨p1, p2, _⟩ | ⟨p1, p2, _⟩
    · rw [if_neg (by omega)]; exact eq_of_toInt (p2.trans c0.symm)
    · rw [if_pos (by omega), if_pos p1]; exact p2
    · rw [if_pos (by omega), if_neg (by omega), if_pos p1]; exact p2
    · rw [if_pos (by omega), if_neg (by omega), if_neg (by omega)]; exact p2
  refine ⟨z20, q2, ?_⟩
  rw [ea, et, eb, em, show (F_x6_findCopy i3 i9 u0 z20 a21 a22 a23 a25 r9n r9c).1 = F_m12_copyOf u0 u1 i6 i9 b2 b4 b8 b15 b16 b17 b18 b19 b20 b21 from CP.1]
theorem c16i : (16 : Int32).toInt = 16 := by decide
theorem div16 {u : Int32} {i j : Nat} (h : u.toInt = ((16 * i + j : Nat) : Int)) (hj : j < 16) (hi : i < 100) : (u / (16 : Int32)).toInt = (i : Int) := by
  rw [Int32.toInt_div, h, c16i, Int.tdiv_eq_ediv_of_nonneg (by omega), Int.bmod_def]
  omega
/-- the class's verdict and the reference's worth of a CLAUSE, once aimed -/
theorem verdict_of {v d cu : Int32} {i c : Nat} {i25 i26 : Int32} {ptn : Nat} {ptc : Nat → Int32} {b28 b29 : Nat → Int32} (h9 : 0 ≤ i9.toInt ∧ i9.toInt ≤ 20) (hL : LAW i9 a18 a19 a20 a21 a22 a23 a24 a25 b15 b16 b17 b18 b19 b20 b21 b22) (hC : RCC i9 a21 a26 rtn rtc b23 b24 b25 b26) (hcu : cu.toInt = (c : Int)) (hi : (i : Int) < i9.toInt) (hc1 : 16 * i ≤ c) (hc2 : (c : Int) < 16 * (i : Int) + (a21 i).toInt) :
    (F_x6_verdict cu i9 v d (F_m12_companyOf v i6 b2 b8) (F_m12_tokensOf v d i6 i9 b2 b4 b8 b15 b16 b17 b18 b19 b20 b21) (b2 v.toNatClampNeg) (b3 v.toNatClampNeg) i25 i26 a26 rtn rtc ptn ptc).1 = (F_m12_worth cu v d i6 i9 b2 b3 b4 b8 b15 b16 b17 b18 b19 b20 b21 b23 b24 b25 b26 b28 b29).1 := by
  obtain ⟨_, _, _, l4, l5, _⟩ := hL i hi
  have l4' : (a21 i).toInt = (b18 i).toInt := by rw [l4]
  obtain ⟨T, n, E, t1, t2, t3, t4, t5, t6⟩ := hC i hi
  have h160 := t1.1
  have hce := t6 c hc1 hc2
  obtain ⟨j, hj⟩ : ∃ j, c = 16 * i + j := ⟨c - 16 * i, by omega⟩
  have hd := div16 (u := cu) (i := i) (j := j) (by rw [← hj]; exact hcu) (by omega) (by omega)
  have hstart : F_x2_start cu a26 = a26 c := by
    rw [E_x2_start, E_x2_isNumber, if_neg (show ¬ cu.toInt < 0 by omega), if_neg (show ¬ cu.toInt ≥ 320 by omega), if_neg n10, nc hcu]
  have htext : F_x2_textOf (F_x2_rulesOf cu) i9 rtn rtc = (n, rtc i) := by
    rw [E_x2_rulesOf, E_x2_textOf, if_neg (by omega), if_neg (by omega), nc hd, t2, if_neg (by omega)]
    rfl
  rw [E_x6_verdict, E_m12_worth, nc hcu, hstart]
  rcases hce with ⟨e1, e2⟩ | ⟨st, e, e1, e2, e7, e3, e4, e5, e6⟩
  · rw [if_neg (by omega), if_neg (fun z => z e2)]
  · have hst : st ≤ n := by
      have := T_in t1 (p := st - 1) (by omega)
      omega
    have hx : TXE T n n (rtc i) := ⟨rfl, t3⟩
    obtain ⟨V, R, W, q, r1, r2, r3⟩ := e_condition (i17 := v) (i18 := d) (i19 := F_m12_companyOf v i6 b2 b8) (i22 := F_m12_tokensOf v d i6 i9 b2 b4 b8 b15 b16 b17 b18 b19 b20 b21) (i23 := b2 v.toNatClampNeg) (i24 := b3 v.toNatClampNeg) t1 hx e3 hst e1
    have hev : ∀ u : Int32, F_m12_valueOf u v d i6 i9 b2 b3 b4 b8 b15 b16 b17 b18 b19 b20 b21 = evl v d (F_m12_companyOf v i6 b2 b8) (F_m12_tokensOf v d i6 i9 b2 b4 b8 b15 b16 b17 b18 b19 b20 b21) (b2 v.toNatClampNeg) (b3 v.toNatClampNeg) u.toInt := by
      intro u
      rw [← evl_of rfl, E_x6_letterValue, E_m12_valueOf]
    have hne : (cm T 1000 3 1 [] st).length ≠ 0 := by
      intro z
      have : cm T 1000 3 1 [] st = [] := List.length_eq_zero_iff.mp z
      have r0 := r1 []
      rw [this] at r0
      have r0 : some ([] : List VR) = some [(bI V, R)] := r0
      cases r0
    have hlen : e + (cm T 1000 3 1 [] st).length ≤ 160 := by
      have hl := e6 ((cm T 1000 3 1 [] st).length - 1) ((cm T 1000 3 1 [] st)[(cm T 1000 3 1 [] st).length - 1]'(by omega)) (List.getElem?_eq_getElem _)
      have := (List.getElem?_eq_some_iff.mp hl).1
      omega
    have ez : ((cu / (16 : Int32)) * (160 : Int32)).toInt = ((160 * i : Nat) : Int) := by
      have := toInt_mul hd c160 rfl (by omega) (by omega)
      omega
    have ez1 := toInt_add ez e4 (by omega) (by omega)
    have ez2 := toInt_add ez e5 (by omega) (by omega)
    have wr := w_all (p0 := cu) (p1 := v) (p2 := d) (z := (cu / (16 : Int32)) * (160 : Int32)) (a24 := b24) (a25 := b25) (a26 := b26) (W := cm T 1000 3 1 [] st) (V := V) (R := R) (i := 160 * i + e) (x15 := ((cu / (16 : Int32)) * (160 : Int32)) + (b23 c)) (a28 := b28) (a29 := b29) hev (by rw [nc hcu]; omega) (r1 []) (cm_pos t1 1000 3 1 [] st (by omega) (fun c hc => by cases hc)) (by omega) (fun k x hk => by have := t5 (e + k) x (e6 k x hk); rw [show 160 * i + e + k = 160 * i + (e + k) by omega]; exact this) (by omega) (by omega)
    rw [if_pos (by omega), htext, if_pos (show (b23 c).toInt ≠ (b24 c).toInt by omega)]
    refine Eq.trans ?_ wr.symm
    dsimp only
    rw [r2]
    dsimp only
    cases R with
    | true =>
      rw [if_neg (show ¬ (bI true).toInt = 0 by decide), if_pos rfl]
    | false =>
      rw [if_pos (show (bI false).toInt = 0 by decide), r3 rfl]
      cases V with
      | true => rw [if_neg (show ¬ (bI true).toInt = 0 by decide)]; rfl
      | false => rw [if_pos (show (bI false).toInt = 0 by decide)]; rfl
theorem R_holds {u0 u1 u2 u3 i17 i18 i19 i20 i21 i22 i23 i24 i25 i26 : Int32} {ptn : Nat} {ptc : Nat → Int32} {b28 b29 : Nat → Int32} (hv : 0 ≤ i3.toInt ∧ i3.toInt ≤ 60) (h6 : 0 ≤ i6.toInt ∧ i6.toInt ≤ 6) (h9 : 0 ≤ i9.toInt ∧ i9.toInt ≤ 20) (hV : VRS i3 a7 b2) (hM : MES i3 a8 b3) (hP : PPL i6 a13 b8) (hL : LAW i9 a18 a19 a20 a21 a22 a23 a24 a25 b15 b16 b17 b18 b19 b20 b21 b22) (hK : KI i9 b18 b19 b20 b21 b22) (hR : RWS r9n r9c b4 b5) (hC : RCC i9 a21 a26 rtn rtc b23 b24 b25 b26) :
    (F_x11_holds u0 u1 u2 u3 i3 i6 i9 i17 i18 i19 i20 i21 i22 i23 i24 i25 i26 a7 a8 a13 a18 a19 a20 a21 a22 a23 a25 a26 r9n r9c rtn rtc ptn ptc).1 = (F_m12_holds u0 u1 u2 u3 i3 i6 i9 b2 b3 b4 b8 b15 b16 b17 b18 b19 b20 b21 b23 b24 b25 b26 b28 b29).1 := by
  have e1' := c1
  have hb := Int32.toInt_lt i9
  have e9 : (i9 - 1).toInt = i9.toInt - 1 := by have := toInt_sub (x := i9) rfl c1 (by omega) (by omega); omega
  rw [E_x11_holds, E_m12_holds, E_x2_hasClause, E_x2_clausesOf]
  rcases mlie (u := u0) c0 e9 with ⟨g1, g⟩ | ⟨g1, g⟩
  · obtain ⟨i, hi⟩ : ∃ i : Nat, u0.toInt = (i : Int) := ⟨u0.toInt.toNat, by omega⟩
    obtain ⟨_, _, _, l4, l5, _⟩ := hL i (by omega)
    have l4' : (a21 i).toInt = (b18 i).toInt := by rw [l4]
    have e18 : (b18 i - 1).toInt = (b18 i).toInt - 1 := by have := toInt_sub (x := b18 i) rfl c1 (by omega) (by omega); omega
    rw [g, if_neg n10, if_neg (show ¬ u0.toInt < 0 by omega), if_neg (show ¬ u0.toInt ≥ i9.toInt by omega), nc hi]
    rcases mlie (u := u1) c0 e18 with ⟨k1, k⟩ | ⟨k1, k⟩
    · obtain ⟨j, hj⟩ : ∃ j : Nat, u1.toInt = (j : Int) := ⟨u1.toInt.toNat, by omega⟩
      rw [k, if_neg n10, if_neg (show ¬ u1.toInt < 0 by omega), if_neg (show ¬ u1.toInt ≥ (a21 i).toInt by omega), if_neg n10]
      rcases xhas (u := u2) (i3 := i3) with ⟨h1, h⟩ | ⟨h1, h⟩
      · rcases mver (u := u2) (i2 := i3) hv.1 with ⟨_, gg⟩ | ⟨gg1, _⟩
        · rw [h, gg, if_neg n10, if_neg n10]
          rcases xday (u := u3) with ⟨d1, d⟩ | ⟨d1, d⟩
          · rcases mday (u := u3) with ⟨_, l⟩ | ⟨l1, _⟩
            · rw [d, l, if_pos y10, if_neg n10]
              obtain ⟨w, hw⟩ : ∃ w : Nat, u2.toInt = (w : Int) := ⟨u2.toInt.toNat, by omega⟩
              obtain ⟨z20, q2, ea⟩ := aim_of (u0 := u2) (u1 := u3) hw (by omega) hv h6 h9 hV hM hP hL hK hR
              rw [ea]
              dsimp only
              have m1 : (u0 * (16 : Int32)).toInt = (i : Int) * 16 := toInt_mul hi c16i rfl (by omega) (by omega)
              have m2 := toInt_add m1 hj (by omega) (by omega)
              have m3 : ((16 : Int32) * u0).toInt = 16 * (i : Int) := toInt_mul c16i hi rfl (by omega) (by omega)
              have m4 := toInt_add m3 hj (by omega) (by omega)
              have ecl : F_x2_clauseOf u0 u1 = (16 : Int32) * u0 + u1 := eq_of_toInt (by show (u0 * (16 : Int32) + u1).toInt = _; omega)
              rw [ecl]
              exact verdict_of (c := 16 * i + j) (i := i) h9 hL hC (by omega) (by omega) (by omega) (by omega)
            · exact absurd d1 l1
          · rcases mday (u := u3) with ⟨l1, _⟩ | ⟨_, l⟩
            · exact absurd l1 d1
            · rw [d, l, if_neg n00, if_pos y00]
        · exact absurd h1 gg1
      · rcases mver (u := u2) (i2 := i3) hv.1 with ⟨gg1, _⟩ | ⟨_, gg⟩
        · exact absurd gg1 h1
        · rw [h, gg, if_pos y00, if_pos y00]
    · rw [k, if_pos y00]
      by_cases w1 : u1.toInt < 0
      · rw [if_pos w1, if_pos y00]
      · rw [if_neg w1, if_pos (show u1.toInt ≥ (a21 i).toInt by omega), if_pos y00]
  · rw [g, if_pos y00]
    by_cases w0 : u0.toInt < 0
    · rw [if_pos w0]
      by_cases w1 : u1.toInt < 0
      · rw [if_pos w1, if_pos y00]
      · rw [if_neg w1, if_pos (show u1.toInt ≥ (0 : Int32).toInt by rw [c0]; omega), if_pos y00]
    · rw [if_neg w0, if_pos (show u0.toInt ≥ i9.toInt by omega)]
      by_cases w1 : u1.toInt < 0
      · rw [if_pos w1, if_pos y00]
      · rw [if_neg w1, if_pos (show u1.toInt ≥ (0 : Int32).toInt by rw [c0]; omega), if_pos y00]
end HLD
def RVM (x m : Int32 × Int32 × (Nat → Int32) × (Nat → Int32)) : Prop := MES x.2.1 x.2.2.2 m.2.2.2
theorem MES_add {i3 j3 u1 : Int32} {a8 b3 : Nat → Int32} {r : Nat} (hr : i3.toInt = (r : Int)) (hj : j3.toInt = (r : Int) + 1) (h : MES i3 a8 b3) : MES j3 (upd a8 r u1) (upd b3 r u1) := by
  intro v hv
  by_cases w : v = r
  · subst w; rw [upd_s, upd_s]
  · have n : ∀ (f : Nat → Int32), upd f r u1 v = f v := fun f => by unfold upd; rw [if_neg w]
    rw [n, n]
    exact h v (by omega)
theorem R_verseM {u0 u1 i3 : Int32} {a7 a8 b2 b3 : Nat → Int32} (h : 0 ≤ i3.toInt ∧ i3.toInt ≤ 60) (hV : MES i3 a8 b3) : RVM (F_x11_verse u0 u1 i3 a7 a8) (F_m12_verse u0 u1 i3 b2 b3) := by
  have c7 : (7 : Int32).toInt = 7 := by decide
  have c40 : (40 : Int32).toInt = 40 := by decide
  have no : RVM ((-1 : Int32), i3, a7, a8) ((-1 : Int32), i3, b2, b3) := hV
  rw [E_x11_verse, E_m12_verse, E_x9_enter]
  rcases mlie (u := u0) c0 c7 with ⟨g1, g⟩ | ⟨g1, g⟩
  · rcases mlie (u := u1) c0 c40 with ⟨k1, k⟩ | ⟨k1, k⟩
    · rw [g, k, if_neg n10, if_pos y10, if_neg (show ¬ u0.toInt < 0 by omega), if_neg (show ¬ u0.toInt > 7 by omega), if_neg (show ¬ u1.toInt < 0 by omega), if_pos (show u1.toInt ≤ 40 by omega)]
      by_cases w : i3.toInt = 60
      · rw [if_pos w, if_neg (show ¬ i3.toInt < 60 by omega)]
        exact no
      · rw [if_neg w, if_pos (show i3.toInt < 60 by omega)]
        obtain ⟨r, hr⟩ : ∃ r : Nat, i3.toInt = (r : Int) := ⟨i3.toInt.toNat, by omega⟩
        have ej := toInt_add hr c1 (by omega) (by omega)
        rw [nc hr]
        exact MES_add hr ej hV
    · have e : (if i3.toInt = 60 then ((-1 : Int32), i3, b2, b3) else (if (F_m12_lies u0 0 7).toInt = 0 then ((-1 : Int32), i3, b2, b3) else (if (F_m12_lies u1 0 40).toInt ≠ 0 then (i3 + 1 - 1, i3 + 1, upd b2 i3.toNatClampNeg u0, upd b3 i3.toNatClampNeg u1) else ((-1 : Int32), i3, b2, b3)))) = ((-1 : Int32), i3, b2, b3) := by
        rw [g, k, if_neg n10, if_neg n00]
        by_cases w : i3.toInt = 60
        · rw [if_pos w]
        · rw [if_neg w]
      rw [e, if_neg (show ¬ u0.toInt < 0 by omega), if_neg (show ¬ u0.toInt > 7 by omega)]
      by_cases w : u1.toInt < 0
      · rw [if_pos w]; exact no
      · rw [if_neg w, if_neg (show ¬ u1.toInt ≤ 40 by omega)]; exact no
  · have e : (if i3.toInt = 60 then ((-1 : Int32), i3, b2, b3) else (if (F_m12_lies u0 0 7).toInt = 0 then ((-1 : Int32), i3, b2, b3) else (if (F_m12_lies u1 0 40).toInt ≠ 0 then (i3 + 1 - 1, i3 + 1, upd b2 i3.toNatClampNeg u0, upd b3 i3.toNatClampNeg u1) else ((-1 : Int32), i3, b2, b3)))) = ((-1 : Int32), i3, b2, b3) := by
      rw [g, if_pos y00]
      by_cases w : i3.toInt = 60
      · rw [if_pos w]
      · rw [if_neg w]
    rw [e]
    by_cases w : u0.toInt < 0
    · rw [if_pos w]; exact no
    · rw [if_neg w, if_pos (show u0.toInt > 7 by omega)]; exact no
