/-! the class goes through its QUARRELS -/
section XS
variable {v day i3 i6 i9 cu : Int32} {a7 a8 a13 a18 a19 a20 a21 a22 a23 a24 a25 a26 b2 b3 b4 b8 b15 b16 b17 b18 b19 b20 b21 b22 b23 b24 b25 b26 b5 : Nat → Int32} {r9n rtn : Nat → Nat} {r9c rtc : Nat → Nat → Int32} {c : Nat}
/-- what is known of the CLAUSES that are kept -/
def HOK (i9 : Int32) (b18 b19 : Nat → Int32) (H : List Nat) : Prop := ∀ k, k ∈ H → (k : Int) < 16 * i9.toInt ∧ vld b18 k = true ∧ (b19 k).toInt = 119
theorem hw_ok {m n2 : Nat} {f2 : Nat → Int32} (hm : 16 * i9.toInt = (m : Int)) : HOK i9 b18 b19 (WF (gB v day i6 i9 b2 b3 b4 b8 b15 b16 b17 b18 b19 b20 b21 b23 b24 b25 b26 n2 f2) m 0) := by
  intro k hk
  obtain ⟨_, h2, h3⟩ := WF_mem m 0 k hk
  unfold gB hwB at h3
  refine ⟨by omega, ?_, ?_⟩
  · cases h : vld b18 k with
    | true => rfl
    | false => rw [h] at h3; cases h3
  · cases h : decide ((b19 k).toInt = 119) with
    | true => exact of_decide_eq_true h
    | false => rw [h] at h3; cases h2 : (vld b18 k && ifB v day i6 b2 b8 b15 b16 b17 (k / 16)) <;> rw [h2] at h3 <;> cases h3
theorem drop_at {H : List Nat} {h : Nat} (hl : h < H.length) : ∃ k, H[h]? = some k ∧ H.drop h = k :: H.drop (h + 1) ∧ k ∈ H :=
  ⟨H[h], List.getElem?_eq_getElem hl, List.drop_eq_getElem_cons hl, List.getElem_mem hl⟩
abbrev R17q := Int32 × Int32 × Int32 × Int32 × Int32 × Int32 × Int32 × Int32 × Int32 × Int32 × Int32 × Int32 × Int32 × (Nat → Int32) × (Nat → Int32) × Nat × (Nat → Int32)
end XS
