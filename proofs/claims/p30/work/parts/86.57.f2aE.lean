/-! which CLAUSES are in FORCE and hold: the reference's look -/
def vld (b18 : Nat → Int32) (c : Nat) : Bool := decide (((c % 16 : Nat) : Int) < (b18 (c / 16)).toInt)
noncomputable def ifB (v day i6 : Int32) (b2 b8 b15 b16 b17 : Nat → Int32) (i : Nat) : Bool := decide ((F_m12_isInForce (Int32.ofNat i) v day i6 b2 b8 b15 b16 b17).toInt ≠ 0)
noncomputable def woB (v day i6 i9 : Int32) (b2 b3 b4 b8 b15 b16 b17 b18 b19 b20 b21 b23 b24 b25 b26 : Nat → Int32) (c : Nat) : Bool := decide ((F_m12_worth (Int32.ofNat c) v day i6 i9 b2 b3 b4 b8 b15 b16 b17 b18 b19 b20 b21 b23 b24 b25 b26 z0 z0).1.toInt = 1)
noncomputable def mtB (b19 b20 b21 : Nat → Int32) (c : Nat) (x : Int32) : Bool := decide ((F_m12_isMeant (Int32.ofNat c) x b19 b20 b21).toInt ≠ 0)
noncomputable def hwB (k : Int) (v day i6 i9 : Int32) (b2 b3 b4 b8 b15 b16 b17 b18 b19 b20 b21 b23 b24 b25 b26 : Nat → Int32) (c : Nat) : Bool := (vld b18 c && ifB v day i6 b2 b8 b15 b16 b17 (c / 16)) && (decide ((b19 c).toInt = k) && woB v day i6 i9 b2 b3 b4 b8 b15 b16 b17 b18 b19 b20 b21 b23 b24 b25 b26 c)
theorem oN {x : Int32} {k : Nat} (h : x.toInt = (k : Int)) : x = Int32.ofNat k := by
  have hb := Int32.toInt_lt x
  exact eq_of_toInt (h.trans (nI_toInt (by omega)).symm)
section LOOKS
variable {v day i3 i6 i9 cu : Int32} {a7 a8 a13 a18 a19 a20 a21 a22 a23 a24 a25 a26 b2 b3 b4 b8 b15 b16 b17 b18 b19 b20 b21 b22 b23 b24 b25 b26 b5 : Nat → Int32} {r9n rtn : Nat → Nat} {r9c rtc : Nat → Nat → Int32} {c : Nat}
theorem dm16 (h : cu.toInt = (c : Int)) (hc : c < 1000) : (cu / (16 : Int32)).toInt = ((c / 16 : Nat) : Int) ∧ (cu - cu / (16 : Int32) * (16 : Int32)).toInt = ((c % 16 : Nat) : Int) := by
  have e1 : (cu / (16 : Int32)).toInt = ((c / 16 : Nat) : Int) := div16 (i := c / 16) (j := c % 16) (by omega) (by omega) (by omega)
  have e2 : (cu / (16 : Int32) * (16 : Int32)).toInt = ((c / 16 : Nat) : Int) * 16 := toInt_mul e1 c16i rfl (by omega) (by omega)
  have e3 := toInt_sub h e2 (by omega) (by omega)
  exact ⟨e1, by omega⟩
theorem worth_of (h9 : 0 ≤ i9.toInt ∧ i9.toInt ≤ 20) (hL : LAW i9 a18 a19 a20 a21 a22 a23 a24 a25 b15 b16 b17 b18 b19 b20 b21 b22) (hC : RCC i9 a21 a26 rtn rtc b23 b24 b25 b26) (hcu : cu.toInt = (c : Int)) (hc : (c : Int) < 16 * i9.toInt) (hv : vld b18 c = true) (b28 b29 : Nat → Int32) :
    (F_m12_worth cu v day i6 i9 b2 b3 b4 b8 b15 b16 b17 b18 b19 b20 b21 b23 b24 b25 b26 b28 b29).1 = (F_m12_worth (Int32.ofNat c) v day i6 i9 b2 b3 b4 b8 b15 b16 b17 b18 b19 b20 b21 b23 b24 b25 b26 z0 z0).1 := by
  have hv' : ((c % 16 : Nat) : Int) < (b18 (c / 16)).toInt := of_decide_eq_true hv
  obtain ⟨_, _, _, l4, _, _⟩ := hL (c / 16) (by omega)
  have l4' : (a21 (c / 16)).toInt = (b18 (c / 16)).toInt := by rw [l4]
  rw [← oN hcu]
  rw [← verdict_of (v := v) (d := day) (i6 := i6) (b2 := b2) (b3 := b3) (b4 := b4) (b8 := b8) (i := c / 16) (i25 := 0) (i26 := 0) (ptn := 0) (ptc := z0) (b28 := b28) (b29 := b29) h9 hL hC hcu (by omega) (by omega) (by omega)]
  exact verdict_of (i := c / 16) h9 hL hC hcu (by omega) (by omega) (by omega)
theorem meant_k {x : Int32} (h : mtB b19 b20 b21 c x = true) (hc : c < 1000) : (b19 c).toInt = 119 := by
  have h := of_decide_eq_true h
  rw [E_m12_isMeant, show (Int32.ofNat c).toNatClampNeg = c from nc (nI_toInt (by omega))] at h
  by_cases w : (b19 c).toInt ≠ 119
  · rw [if_pos w] at h; exact absurd c0 h
  · omega
theorem isMeant01 {x : Int32} : F_m12_isMeant cu x b19 b20 b21 = 1 ∨ F_m12_isMeant cu x b19 b20 b21 = 0 := by
  rw [E_m12_isMeant]
  split
  · exact Or.inr rfl
  · split
    · exact Or.inr rfl
    · split
      · exact Or.inl rfl
      · split
        · exact Or.inr rfl
        · exact Or.inl rfl
theorem asked_of {x : Int32} (h9 : 0 ≤ i9.toInt ∧ i9.toInt ≤ 20) (hL : LAW i9 a18 a19 a20 a21 a22 a23 a24 a25 b15 b16 b17 b18 b19 b20 b21 b22) (hC : RCC i9 a21 a26 rtn rtc b23 b24 b25 b26) (hcu : cu.toInt = (c : Int)) (hc : (c : Int) < 16 * i9.toInt) (b28 b29 : Nat → Int32) :
    (F_m12_isAsked cu v x day i6 i9 b2 b3 b4 b8 b15 b16 b17 b18 b19 b20 b21 b23 b24 b25 b26 b28 b29).1 = if hwB 119 v day i6 i9 b2 b3 b4 b8 b15 b16 b17 b18 b19 b20 b21 b23 b24 b25 b26 c = true ∧ mtB b19 b20 b21 c x = true then 1 else 0 := by
  obtain ⟨e1, e2⟩ := dm16 hcu (by omega)
  rw [E_m12_isAsked, nc e1]
  by_cases w1 : (cu - cu / (16 : Int32) * (16 : Int32)).toInt ≥ (b18 (c / 16)).toInt
  · have n1 : vld b18 c = false := decide_eq_false (by omega)
    rw [if_pos w1, if_neg (fun z => by have := z.1; unfold hwB at this; rw [n1] at this; cases this)]
  · have n1 : vld b18 c = true := decide_eq_true (by omega)
    rw [if_neg w1, oN e1]
    by_cases w2 : (F_m12_isInForce (Int32.ofNat (c / 16)) v day i6 b2 b8 b15 b16 b17).toInt = 0
    · have n2 : ifB v day i6 b2 b8 b15 b16 b17 (c / 16) = false := decide_eq_false (fun z => z w2)
      rw [if_pos w2, if_neg (fun z => by have := z.1; unfold hwB at this; rw [n1, n2] at this; cases this)]
    · have n2 : ifB v day i6 b2 b8 b15 b16 b17 (c / 16) = true := decide_eq_true w2
      rw [if_neg w2]
      by_cases w3 : (F_m12_isMeant cu x b19 b20 b21).toInt = 0
      · have n3 : mtB b19 b20 b21 c x = false := decide_eq_false (fun z => z (by rw [← oN hcu]; exact w3))
        rw [if_pos w3, if_neg (fun z => by have := z.2; rw [n3] at this; cases this)]
      · have n3 : mtB b19 b20 b21 c x = true := decide_eq_true (by rw [← oN hcu]; exact w3)
        have k3 : decide ((b19 c).toInt = 119) = true := decide_eq_true (meant_k n3 (by omega))
        rw [if_neg w3]
        have ew := worth_of (v := v) (day := day) (i6 := i6) (b2 := b2) (b3 := b3) (b4 := b4) (b8 := b8) h9 hL hC hcu hc n1 b28 b29
        rw [ew]
        by_cases w4 : (F_m12_worth (Int32.ofNat c) v day i6 i9 b2 b3 b4 b8 b15 b16 b17 b18 b19 b20 b21 b23 b24 b25 b26 z0 z0).1.toInt ≠ 1
        · have n4 : woB v day i6 i9 b2 b3 b4 b8 b15 b16 b17 b18 b19 b20 b21 b23 b24 b25 b26 c = false := decide_eq_false w4
          rw [if_pos w4, if_neg (fun z => by have := z.1; unfold hwB at this; rw [n1, n2, k3, n4] at this; cases this)]
        · have n4 : woB v day i6 i9 b2 b3 b4 b8 b15 b16 b17 b18 b19 b20 b21 b23 b24 b25 b26 c = true := decide_eq_true (by omega)
          rw [if_neg w4, if_pos ⟨by unfold hwB; rw [n1, n2, k3, n4]; rfl, n3⟩]
end LOOKS
