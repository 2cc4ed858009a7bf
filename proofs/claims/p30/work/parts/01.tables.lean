-- ===== PART A: goes FIRST, ahead of the names: the tables' words, and 'selects' of the private methods out of them =====
/-- a private method of a class that the tables say can be made, by its rows of tables_1 -/
def lw_okq (q : MethodName × Nat) : Prop := (q.1.cls ≠ "java/lang/invoke/MethodHandle" ∧ q.1.cls ≠ "java/lang/invoke/VarHandle") ∧ Cond.instantiable q.1.cls q.2 ∈ tables_1 ∧ Cond.privateMethod q.1 ∈ tables_1 ∧ Cond.instanceMethod q.1 ∈ tables_1
theorem tm_0 : tables_1 = tables_1_1 ++ (tables_1_2 ++ (tables_1_3 ++ (tables_1_4 ++ (tables_1_5 ++ (tables_1_6 ++ (tables_1_7 ++ (tables_1_8 ++ (tables_1_9 ++ tables_1_10)))))))) := rfl
theorem tm_1 {w : Cond} (i : Nat) (h0 : tables_1_1[i]? = some w) : w ∈ tables_1 := by rw [tm_0]; have h := List.mem_of_getElem? h0; exact List.mem_append_left _ h
theorem tm_2 {w : Cond} (i : Nat) (h0 : tables_1_2[i]? = some w) : w ∈ tables_1 := by rw [tm_0]; have h := List.mem_of_getElem? h0; exact List.mem_append_right _ (List.mem_append_left _ h)
theorem tm_3 {w : Cond} (i : Nat) (h0 : tables_1_3[i]? = some w) : w ∈ tables_1 := by rw [tm_0]; have h := List.mem_of_getElem? h0; exact List.mem_append_right _ (List.mem_append_right _ (List.mem_append_left _ h))
theorem tm_4 {w : Cond} (i : Nat) (h0 : tables_1_4[i]? = some w) : w ∈ tables_1 := by rw [tm_0]; have h := List.mem_of_getElem? h0; exact List.mem_append_right _ (List.mem_append_right _ (List.mem_append_right _ (List.mem_append_left _ h)))
theorem tm_5 {w : Cond} (i : Nat) (h0 : tables_1_5[i]? = some w) : w ∈ tables_1 := by rw [tm_0]; have h := List.mem_of_getElem? h0; exact List.mem_append_right _ (List.mem_append_right _ (List.mem_append_right _ (List.mem_append_right _ (List.mem_append_left _ h))))
theorem tm_6 {w : Cond} (i : Nat) (h0 : tables_1_6[i]? = some w) : w ∈ tables_1 := by rw [tm_0]; have h := List.mem_of_getElem? h0; exact List.mem_append_right _ (List.mem_append_right _ (List.mem_append_right _ (List.mem_append_right _ (List.mem_append_right _ (List.mem_append_left _ h)))))
theorem tm_7 {w : Cond} (i : Nat) (h0 : tables_1_7[i]? = some w) : w ∈ tables_1 := by rw [tm_0]; have h := List.mem_of_getElem? h0; exact List.mem_append_right _ (List.mem_append_right _ (List.mem_append_right _ (List.mem_append_right _ (List.mem_append_right _ (List.mem_append_right _ (List.mem_append_left _ h))))))
theorem tm_8 {w : Cond} (i : Nat) (h0 : tables_1_8[i]? = some w) : w ∈ tables_1 := by rw [tm_0]; have h := List.mem_of_getElem? h0; exact List.mem_append_right _ (List.mem_append_right _ (List.mem_append_right _ (List.mem_append_right _ (List.mem_append_right _ (List.mem_append_right _ (List.mem_append_right _ (List.mem_append_left _ h)))))))
theorem tm_9 {w : Cond} (i : Nat) (h0 : tables_1_9[i]? = some w) : w ∈ tables_1 := by rw [tm_0]; have h := List.mem_of_getElem? h0; exact List.mem_append_right _ (List.mem_append_right _ (List.mem_append_right _ (List.mem_append_right _ (List.mem_append_right _ (List.mem_append_right _ (List.mem_append_right _ (List.mem_append_right _ (List.mem_append_left _ h))))))))
theorem tm_10 {w : Cond} (i : Nat) (h0 : tables_1_10[i]? = some w) : w ∈ tables_1 := by rw [tm_0]; have h := List.mem_of_getElem? h0; exact List.mem_append_right _ (List.mem_append_right _ (List.mem_append_right _ (List.mem_append_right _ (List.mem_append_right _ (List.mem_append_right _ (List.mem_append_right _ (List.mem_append_right _ (List.mem_append_right _ (h)))))))))
set_option maxRecDepth 100000 in
theorem lw_p0 : lw_okq (⟨"VerseCommittee", "putFour", "(I)V"⟩, 14) := ⟨⟨by decide +kernel, by decide +kernel⟩, tm_1 17 rfl, tm_2 200 rfl, tm_2 201 rfl⟩
set_option maxRecDepth 100000 in
theorem lw_p1 : lw_okq (⟨"VerseCommittee", "tapeHas", "(II)Z"⟩, 14) := ⟨⟨by decide +kernel, by decide +kernel⟩, tm_1 17 rfl, tm_2 223 rfl, tm_2 224 rfl⟩
set_option maxRecDepth 100000 in
theorem lw_p2 : lw_okq (⟨"VerseCommittee", "tapeHasTokens", "(I)Z"⟩, 14) := ⟨⟨by decide +kernel, by decide +kernel⟩, tm_1 17 rfl, tm_2 227 rfl, tm_2 228 rfl⟩
set_option maxRecDepth 100000 in
theorem lw_p3 : lw_okq (⟨"VerseCommittee", "tapeHasLetters", "(I)Z"⟩, 14) := ⟨⟨by decide +kernel, by decide +kernel⟩, tm_1 17 rfl, tm_3 1 rfl, tm_3 2 rfl⟩
set_option maxRecDepth 100000 in
theorem lw_p4 : lw_okq (⟨"VerseCommittee$Words", "isThere", "([II)Z"⟩, 3) := ⟨⟨by decide +kernel, by decide +kernel⟩, tm_1 25 rfl, tm_3 9 rfl, tm_3 10 rfl⟩
set_option maxRecDepth 100000 in
theorem lw_p5 : lw_okq (⟨"VerseCommittee$Words", "isSpelledSo", "(I[II)Z"⟩, 3) := ⟨⟨by decide +kernel, by decide +kernel⟩, tm_1 25 rfl, tm_3 13 rfl, tm_3 14 rfl⟩
set_option maxRecDepth 100000 in
theorem lw_p6 : lw_okq (⟨"VerseCommittee$Words", "put", "(I[II)V"⟩, 3) := ⟨⟨by decide +kernel, by decide +kernel⟩, tm_1 25 rfl, tm_3 17 rfl, tm_3 18 rfl⟩
set_option maxRecDepth 100000 in
theorem lw_p7 : lw_okq (⟨"VerseCommittee$Parser", "readClause", "(I)Z"⟩, 7) := ⟨⟨by decide +kernel, by decide +kernel⟩, tm_1 172 rfl, tm_3 99 rfl, tm_3 100 rfl⟩
set_option maxRecDepth 100000 in
theorem lw_p8 : lw_okq (⟨"VerseCommittee$Parser", "sign", "()I"⟩, 7) := ⟨⟨by decide +kernel, by decide +kernel⟩, tm_1 172 rfl, tm_3 103 rfl, tm_3 104 rfl⟩
set_option maxRecDepth 100000 in
theorem lw_p9 : lw_okq (⟨"VerseCommittee$Parser", "fail", "(II)Z"⟩, 7) := ⟨⟨by decide +kernel, by decide +kernel⟩, tm_1 172 rfl, tm_3 107 rfl, tm_3 108 rfl⟩
set_option maxRecDepth 100000 in
theorem lw_p10 : lw_okq (⟨"VerseCommittee$Parser", "readTurning", "(I)Z"⟩, 7) := ⟨⟨by decide +kernel, by decide +kernel⟩, tm_1 172 rfl, tm_3 123 rfl, tm_3 124 rfl⟩
set_option maxRecDepth 100000 in
theorem lw_p11 : lw_okq (⟨"VerseCommittee$Parser", "readNumber", "(I)I"⟩, 7) := ⟨⟨by decide +kernel, by decide +kernel⟩, tm_1 172 rfl, tm_3 127 rfl, tm_3 128 rfl⟩
set_option maxRecDepth 100000 in
theorem lw_p12 : lw_okq (⟨"VerseCommittee$Parser", "pass", "(I)Z"⟩, 7) := ⟨⟨by decide +kernel, by decide +kernel⟩, tm_1 172 rfl, tm_3 134 rfl, tm_3 135 rfl⟩
set_option maxRecDepth 100000 in
theorem lw_p13 : lw_okq (⟨"VerseCommittee$Parser", "readTail", "(II)Z"⟩, 7) := ⟨⟨by decide +kernel, by decide +kernel⟩, tm_1 172 rfl, tm_3 138 rfl, tm_3 139 rfl⟩
set_option maxRecDepth 100000 in
theorem lw_p14 : lw_okq (⟨"VerseCommittee$Parser", "readCondition", "(I)Z"⟩, 7) := ⟨⟨by decide +kernel, by decide +kernel⟩, tm_1 172 rfl, tm_3 142 rfl, tm_3 143 rfl⟩
set_option maxRecDepth 100000 in
theorem lw_p15 : lw_okq (⟨"VerseCommittee$Parser", "readPart", "(I)Z"⟩, 7) := ⟨⟨by decide +kernel, by decide +kernel⟩, tm_1 172 rfl, tm_3 146 rfl, tm_3 147 rfl⟩
def lw_privs_1 : List (MethodName × Nat) := [(⟨"VerseCommittee", "putFour", "(I)V"⟩, 14), (⟨"VerseCommittee", "tapeHas", "(II)Z"⟩, 14), (⟨"VerseCommittee", "tapeHasTokens", "(I)Z"⟩, 14), (⟨"VerseCommittee", "tapeHasLetters", "(I)Z"⟩, 14), (⟨"VerseCommittee$Words", "isThere", "([II)Z"⟩, 3), (⟨"VerseCommittee$Words", "isSpelledSo", "(I[II)Z"⟩, 3), (⟨"VerseCommittee$Words", "put", "(I[II)V"⟩, 3), (⟨"VerseCommittee$Parser", "readClause", "(I)Z"⟩, 7), (⟨"VerseCommittee$Parser", "sign", "()I"⟩, 7), (⟨"VerseCommittee$Parser", "fail", "(II)Z"⟩, 7), (⟨"VerseCommittee$Parser", "readTurning", "(I)Z"⟩, 7), (⟨"VerseCommittee$Parser", "readNumber", "(I)I"⟩, 7), (⟨"VerseCommittee$Parser", "pass", "(I)Z"⟩, 7), (⟨"VerseCommittee$Parser", "readTail", "(II)Z"⟩, 7), (⟨"VerseCommittee$Parser", "readCondition", "(I)Z"⟩, 7), (⟨"VerseCommittee$Parser", "readPart", "(I)Z"⟩, 7)]
theorem lw_r1 : ∀ q ∈ lw_privs_1, lw_okq q := List.forall_mem_cons.mpr ⟨lw_p0, List.forall_mem_cons.mpr ⟨lw_p1, List.forall_mem_cons.mpr ⟨lw_p2, List.forall_mem_cons.mpr ⟨lw_p3, List.forall_mem_cons.mpr ⟨lw_p4, List.forall_mem_cons.mpr ⟨lw_p5, List.forall_mem_cons.mpr ⟨lw_p6, List.forall_mem_cons.mpr ⟨lw_p7, List.forall_mem_cons.mpr ⟨lw_p8, List.forall_mem_cons.mpr ⟨lw_p9, List.forall_mem_cons.mpr ⟨lw_p10, List.forall_mem_cons.mpr ⟨lw_p11, List.forall_mem_cons.mpr ⟨lw_p12, List.forall_mem_cons.mpr ⟨lw_p13, List.forall_mem_cons.mpr ⟨lw_p14, List.forall_mem_cons.mpr ⟨lw_p15, fun _ h => absurd h List.not_mem_nil⟩⟩⟩⟩⟩⟩⟩⟩⟩⟩⟩⟩⟩⟩⟩⟩
set_option maxRecDepth 100000 in
theorem lw_p16 : lw_okq (⟨"VerseCommittee$Parser", "readPiece", "(I)Z"⟩, 7) := ⟨⟨by decide +kernel, by decide +kernel⟩, tm_1 172 rfl, tm_3 150 rfl, tm_3 151 rfl⟩
set_option maxRecDepth 100000 in
theorem lw_p17 : lw_okq (⟨"VerseCommittee$Parser", "readOpening", "(I)Z"⟩, 7) := ⟨⟨by decide +kernel, by decide +kernel⟩, tm_1 172 rfl, tm_3 154 rfl, tm_3 155 rfl⟩
set_option maxRecDepth 100000 in
theorem lw_p18 : lw_okq (⟨"VerseCommittee$Parser", "readSum", "(I)Z"⟩, 7) := ⟨⟨by decide +kernel, by decide +kernel⟩, tm_1 172 rfl, tm_3 158 rfl, tm_3 159 rfl⟩
set_option maxRecDepth 100000 in
theorem lw_p19 : lw_okq (⟨"VerseCommittee$Parser", "readTerm", "(I)Z"⟩, 7) := ⟨⟨by decide +kernel, by decide +kernel⟩, tm_1 172 rfl, tm_3 162 rfl, tm_3 163 rfl⟩
set_option maxRecDepth 100000 in
theorem lw_p20 : lw_okq (⟨"VerseCommittee$Parser", "readFactor", "(I)Z"⟩, 7) := ⟨⟨by decide +kernel, by decide +kernel⟩, tm_1 172 rfl, tm_3 166 rfl, tm_3 167 rfl⟩
set_option maxRecDepth 100000 in
theorem lw_p21 : lw_okq (⟨"VerseCommittee$Parser", "isTermSign", "()Z"⟩, 7) := ⟨⟨by decide +kernel, by decide +kernel⟩, tm_1 172 rfl, tm_3 171 rfl, tm_3 172 rfl⟩
set_option maxRecDepth 100000 in
theorem lw_p22 : lw_okq (⟨"VerseCommittee$Parser", "readComparison", "()Z"⟩, 7) := ⟨⟨by decide +kernel, by decide +kernel⟩, tm_1 172 rfl, tm_3 175 rfl, tm_3 176 rfl⟩
set_option maxRecDepth 100000 in
theorem lw_p23 : lw_okq (⟨"VerseCommittee$Parser", "readRanks", "(I)Z"⟩, 7) := ⟨⟨by decide +kernel, by decide +kernel⟩, tm_1 172 rfl, tm_3 179 rfl, tm_3 180 rfl⟩
set_option maxRecDepth 100000 in
theorem lw_p24 : lw_okq (⟨"VerseCommittee$Parser", "readHundredths", "(I)Z"⟩, 7) := ⟨⟨by decide +kernel, by decide +kernel⟩, tm_1 172 rfl, tm_3 183 rfl, tm_3 184 rfl⟩
set_option maxRecDepth 100000 in
theorem lw_p25 : lw_okq (⟨"VerseCommittee$Parser", "readRest", "(I)Z"⟩, 7) := ⟨⟨by decide +kernel, by decide +kernel⟩, tm_1 172 rfl, tm_3 187 rfl, tm_3 188 rfl⟩
set_option maxRecDepth 100000 in
theorem lw_p26 : lw_okq (⟨"VerseCommittee$Reckoner", "findCopy", "()V"⟩, 14) := ⟨⟨by decide +kernel, by decide +kernel⟩, tm_1 202 rfl, tm_4 3 rfl, tm_4 4 rfl⟩
set_option maxRecDepth 100000 in
theorem lw_p27 : lw_okq (⟨"VerseCommittee$Reckoner", "lastInForce", "(II)I"⟩, 14) := ⟨⟨by decide +kernel, by decide +kernel⟩, tm_1 202 rfl, tm_4 7 rfl, tm_4 8 rfl⟩
set_option maxRecDepth 100000 in
theorem lw_p28 : lw_okq (⟨"VerseCommittee$Reckoner", "reckonCondition", "(ZI)Z"⟩, 14) := ⟨⟨by decide +kernel, by decide +kernel⟩, tm_1 202 rfl, tm_4 54 rfl, tm_4 55 rfl⟩
set_option maxRecDepth 100000 in
theorem lw_p29 : lw_okq (⟨"VerseCommittee$Reckoner", "reckonPart", "(ZI)Z"⟩, 14) := ⟨⟨by decide +kernel, by decide +kernel⟩, tm_1 202 rfl, tm_4 58 rfl, tm_4 59 rfl⟩
set_option maxRecDepth 100000 in
theorem lw_p30 : lw_okq (⟨"VerseCommittee$Reckoner", "reckonPiece", "(ZI)Z"⟩, 14) := ⟨⟨by decide +kernel, by decide +kernel⟩, tm_1 202 rfl, tm_4 62 rfl, tm_4 63 rfl⟩
set_option maxRecDepth 100000 in
theorem lw_p31 : lw_okq (⟨"VerseCommittee$Reckoner", "sign", "()I"⟩, 14) := ⟨⟨by decide +kernel, by decide +kernel⟩, tm_1 202 rfl, tm_4 66 rfl, tm_4 67 rfl⟩
def lw_privs_2 : List (MethodName × Nat) := [(⟨"VerseCommittee$Parser", "readPiece", "(I)Z"⟩, 7), (⟨"VerseCommittee$Parser", "readOpening", "(I)Z"⟩, 7), (⟨"VerseCommittee$Parser", "readSum", "(I)Z"⟩, 7), (⟨"VerseCommittee$Parser", "readTerm", "(I)Z"⟩, 7), (⟨"VerseCommittee$Parser", "readFactor", "(I)Z"⟩, 7), (⟨"VerseCommittee$Parser", "isTermSign", "()Z"⟩, 7), (⟨"VerseCommittee$Parser", "readComparison", "()Z"⟩, 7), (⟨"VerseCommittee$Parser", "readRanks", "(I)Z"⟩, 7), (⟨"VerseCommittee$Parser", "readHundredths", "(I)Z"⟩, 7), (⟨"VerseCommittee$Parser", "readRest", "(I)Z"⟩, 7), (⟨"VerseCommittee$Reckoner", "findCopy", "()V"⟩, 14), (⟨"VerseCommittee$Reckoner", "lastInForce", "(II)I"⟩, 14), (⟨"VerseCommittee$Reckoner", "reckonCondition", "(ZI)Z"⟩, 14), (⟨"VerseCommittee$Reckoner", "reckonPart", "(ZI)Z"⟩, 14), (⟨"VerseCommittee$Reckoner", "reckonPiece", "(ZI)Z"⟩, 14), (⟨"VerseCommittee$Reckoner", "sign", "()I"⟩, 14)]
theorem lw_r2 : ∀ q ∈ lw_privs_2, lw_okq q := List.forall_mem_cons.mpr ⟨lw_p16, List.forall_mem_cons.mpr ⟨lw_p17, List.forall_mem_cons.mpr ⟨lw_p18, List.forall_mem_cons.mpr ⟨lw_p19, List.forall_mem_cons.mpr ⟨lw_p20, List.forall_mem_cons.mpr ⟨lw_p21, List.forall_mem_cons.mpr ⟨lw_p22, List.forall_mem_cons.mpr ⟨lw_p23, List.forall_mem_cons.mpr ⟨lw_p24, List.forall_mem_cons.mpr ⟨lw_p25, List.forall_mem_cons.mpr ⟨lw_p26, List.forall_mem_cons.mpr ⟨lw_p27, List.forall_mem_cons.mpr ⟨lw_p28, List.forall_mem_cons.mpr ⟨lw_p29, List.forall_mem_cons.mpr ⟨lw_p30, List.forall_mem_cons.mpr ⟨lw_p31, fun _ h => absurd h List.not_mem_nil⟩⟩⟩⟩⟩⟩⟩⟩⟩⟩⟩⟩⟩⟩⟩⟩
set_option maxRecDepth 100000 in
theorem lw_p32 : lw_okq (⟨"VerseCommittee$Reckoner", "reckonSum", "(ZI)I"⟩, 14) := ⟨⟨by decide +kernel, by decide +kernel⟩, tm_1 202 rfl, tm_4 70 rfl, tm_4 71 rfl⟩
set_option maxRecDepth 100000 in
theorem lw_p33 : lw_okq (⟨"VerseCommittee$Reckoner", "reckonTerm", "(ZI)I"⟩, 14) := ⟨⟨by decide +kernel, by decide +kernel⟩, tm_1 202 rfl, tm_4 74 rfl, tm_4 75 rfl⟩
set_option maxRecDepth 100000 in
theorem lw_p34 : lw_okq (⟨"VerseCommittee$Reckoner", "reckonFactor", "(ZI)I"⟩, 14) := ⟨⟨by decide +kernel, by decide +kernel⟩, tm_1 202 rfl, tm_4 78 rfl, tm_4 79 rfl⟩
set_option maxRecDepth 100000 in
theorem lw_p35 : lw_okq (⟨"VerseCommittee$Reckoner", "numberThere", "()I"⟩, 14) := ⟨⟨by decide +kernel, by decide +kernel⟩, tm_1 202 rfl, tm_4 85 rfl, tm_4 86 rfl⟩
set_option maxRecDepth 100000 in
theorem lw_p36 : lw_okq (⟨"VerseCommittee$Reckoner", "letterValue", "(I)I"⟩, 14) := ⟨⟨by decide +kernel, by decide +kernel⟩, tm_1 202 rfl, tm_4 89 rfl, tm_4 90 rfl⟩
set_option maxRecDepth 100000 in
theorem lw_p37 : lw_okq (⟨"VerseCommittee", "distance", "([I[I)I"⟩, 14) := ⟨⟨by decide +kernel, by decide +kernel⟩, tm_1 17 rfl, tm_4 129 rfl, tm_4 130 rfl⟩
set_option maxRecDepth 100000 in
theorem lw_p38 : lw_okq (⟨"VerseCommittee", "tapeHasSlots", "(II)Z"⟩, 14) := ⟨⟨by decide +kernel, by decide +kernel⟩, tm_1 17 rfl, tm_4 150 rfl, tm_4 151 rfl⟩
set_option maxRecDepth 100000 in
theorem lw_p39 : lw_okq (⟨"VerseCommittee", "votersOf", "(LVerseCommittee$Rendering;)I"⟩, 14) := ⟨⟨by decide +kernel, by decide +kernel⟩, tm_1 17 rfl, tm_4 225 rfl, tm_4 226 rfl⟩
set_option maxRecDepth 100000 in
theorem lw_p40 : lw_okq (⟨"VerseCommittee$Shelf", "setFixed", "(III)V"⟩, 7) := ⟨⟨by decide +kernel, by decide +kernel⟩, tm_1 142 rfl, tm_5 59 rfl, tm_5 60 rfl⟩
set_option maxRecDepth 100000 in
theorem lw_p41 : lw_okq (⟨"VerseCommittee$Rendering", "standsWithout", "(II)Z"⟩, 14) := ⟨⟨by decide +kernel, by decide +kernel⟩, tm_4 154 rfl, tm_5 84 rfl, tm_5 85 rfl⟩
set_option maxRecDepth 100000 in
theorem lw_p42 : lw_okq (⟨"VerseCommittee", "isPastDay", "(I)Z"⟩, 14) := ⟨⟨by decide +kernel, by decide +kernel⟩, tm_1 17 rfl, tm_5 102 rfl, tm_5 103 rfl⟩
set_option maxRecDepth 100000 in
theorem lw_p43 : lw_okq (⟨"VerseCommittee$Findings", "gatherHeld", "(II[I)V"⟩, 13) := ⟨⟨by decide +kernel, by decide +kernel⟩, tm_2 12 rfl, tm_5 123 rfl, tm_5 124 rfl⟩
set_option maxRecDepth 100000 in
theorem lw_p44 : lw_okq (⟨"VerseCommittee$Findings", "tellClause", "(II)V"⟩, 13) := ⟨⟨by decide +kernel, by decide +kernel⟩, tm_2 12 rfl, tm_5 148 rfl, tm_5 149 rfl⟩
set_option maxRecDepth 100000 in
theorem lw_p45 : lw_okq (⟨"VerseCommittee$Findings", "seekSecond", "(III)Z"⟩, 13) := ⟨⟨by decide +kernel, by decide +kernel⟩, tm_2 12 rfl, tm_5 178 rfl, tm_5 179 rfl⟩
set_option maxRecDepth 100000 in
theorem lw_p46 : lw_okq (⟨"VerseCommittee$Findings", "markAlike", "(II)Z"⟩, 13) := ⟨⟨by decide +kernel, by decide +kernel⟩, tm_2 12 rfl, tm_5 195 rfl, tm_5 196 rfl⟩
set_option maxRecDepth 100000 in
theorem lw_p47 : lw_okq (⟨"VerseCommittee$Findings", "addPlaces", "(I[I)V"⟩, 13) := ⟨⟨by decide +kernel, by decide +kernel⟩, tm_2 12 rfl, tm_5 199 rfl, tm_5 200 rfl⟩
def lw_privs_3 : List (MethodName × Nat) := [(⟨"VerseCommittee$Reckoner", "reckonSum", "(ZI)I"⟩, 14), (⟨"VerseCommittee$Reckoner", "reckonTerm", "(ZI)I"⟩, 14), (⟨"VerseCommittee$Reckoner", "reckonFactor", "(ZI)I"⟩, 14), (⟨"VerseCommittee$Reckoner", "numberThere", "()I"⟩, 14), (⟨"VerseCommittee$Reckoner", "letterValue", "(I)I"⟩, 14), (⟨"VerseCommittee", "distance", "([I[I)I"⟩, 14), (⟨"VerseCommittee", "tapeHasSlots", "(II)Z"⟩, 14), (⟨"VerseCommittee", "votersOf", "(LVerseCommittee$Rendering;)I"⟩, 14), (⟨"VerseCommittee$Shelf", "setFixed", "(III)V"⟩, 7), (⟨"VerseCommittee$Rendering", "standsWithout", "(II)Z"⟩, 14), (⟨"VerseCommittee", "isPastDay", "(I)Z"⟩, 14), (⟨"VerseCommittee$Findings", "gatherHeld", "(II[I)V"⟩, 13), (⟨"VerseCommittee$Findings", "tellClause", "(II)V"⟩, 13), (⟨"VerseCommittee$Findings", "seekSecond", "(III)Z"⟩, 13), (⟨"VerseCommittee$Findings", "markAlike", "(II)Z"⟩, 13), (⟨"VerseCommittee$Findings", "addPlaces", "(I[I)V"⟩, 13)]
theorem lw_r3 : ∀ q ∈ lw_privs_3, lw_okq q := List.forall_mem_cons.mpr ⟨lw_p32, List.forall_mem_cons.mpr ⟨lw_p33, List.forall_mem_cons.mpr ⟨lw_p34, List.forall_mem_cons.mpr ⟨lw_p35, List.forall_mem_cons.mpr ⟨lw_p36, List.forall_mem_cons.mpr ⟨lw_p37, List.forall_mem_cons.mpr ⟨lw_p38, List.forall_mem_cons.mpr ⟨lw_p39, List.forall_mem_cons.mpr ⟨lw_p40, List.forall_mem_cons.mpr ⟨lw_p41, List.forall_mem_cons.mpr ⟨lw_p42, List.forall_mem_cons.mpr ⟨lw_p43, List.forall_mem_cons.mpr ⟨lw_p44, List.forall_mem_cons.mpr ⟨lw_p45, List.forall_mem_cons.mpr ⟨lw_p46, List.forall_mem_cons.mpr ⟨lw_p47, fun _ h => absurd h List.not_mem_nil⟩⟩⟩⟩⟩⟩⟩⟩⟩⟩⟩⟩⟩⟩⟩⟩
set_option maxRecDepth 100000 in
theorem lw_p48 : lw_okq (⟨"VerseCommittee$Findings", "isUnlike", "(II)Z"⟩, 13) := ⟨⟨by decide +kernel, by decide +kernel⟩, tm_2 12 rfl, tm_5 203 rfl, tm_5 204 rfl⟩
set_option maxRecDepth 100000 in
theorem lw_p49 : lw_okq (⟨"VerseCommittee$Findings", "shareClause", "(II)Z"⟩, 13) := ⟨⟨by decide +kernel, by decide +kernel⟩, tm_2 12 rfl, tm_5 207 rfl, tm_5 208 rfl⟩
set_option maxRecDepth 100000 in
theorem lw_p50 : lw_okq (⟨"VerseCommittee$Rendering", "nextSlot", "(II)I"⟩, 14) := ⟨⟨by decide +kernel, by decide +kernel⟩, tm_4 154 rfl, tm_5 215 rfl, tm_5 216 rfl⟩
set_option maxRecDepth 100000 in
theorem lw_p51 : lw_okq (⟨"VerseCommittee$Choices", "placeOf", "(I)I"⟩, 14) := ⟨⟨by decide +kernel, by decide +kernel⟩, tm_2 59 rfl, tm_5 238 rfl, tm_5 239 rfl⟩
set_option maxRecDepth 100000 in
theorem lw_p52 : lw_okq (⟨"VerseCommittee$Choices", "isOption", "(II)Z"⟩, 14) := ⟨⟨by decide +kernel, by decide +kernel⟩, tm_2 59 rfl, tm_6 2 rfl, tm_6 3 rfl⟩
set_option maxRecDepth 100000 in
theorem lw_p53 : lw_okq (⟨"VerseCommittee$Choices", "arePart", "(II)Z"⟩, 14) := ⟨⟨by decide +kernel, by decide +kernel⟩, tm_2 59 rfl, tm_6 14 rfl, tm_6 15 rfl⟩
set_option maxRecDepth 100000 in
theorem lw_p54 : lw_okq (⟨"VerseCommittee$Choices", "addPrices", "(LVerseCommittee$Rendering;)V"⟩, 14) := ⟨⟨by decide +kernel, by decide +kernel⟩, tm_2 59 rfl, tm_6 32 rfl, tm_6 33 rfl⟩
set_option maxRecDepth 100000 in
theorem lw_p55 : lw_okq (⟨"VerseCommittee$Choices", "barByClauses", "(I[II)V"⟩, 14) := ⟨⟨by decide +kernel, by decide +kernel⟩, tm_2 59 rfl, tm_6 43 rfl, tm_6 44 rfl⟩
set_option maxRecDepth 100000 in
theorem lw_p56 : lw_okq (⟨"VerseCommittee$Choices", "barOthers", "(II)V"⟩, 14) := ⟨⟨by decide +kernel, by decide +kernel⟩, tm_2 59 rfl, tm_6 57 rfl, tm_6 58 rfl⟩
set_option maxRecDepth 100000 in
theorem lw_p57 : lw_okq (⟨"VerseCommittee$Choices", "mayStand", "(I)Z"⟩, 14) := ⟨⟨by decide +kernel, by decide +kernel⟩, tm_2 59 rfl, tm_6 65 rfl, tm_6 66 rfl⟩
set_option maxRecDepth 100000 in
theorem lw_p58 : lw_okq (⟨"VerseCommittee$Choices", "chosen", "(I)I"⟩, 14) := ⟨⟨by decide +kernel, by decide +kernel⟩, tm_2 59 rfl, tm_6 69 rfl, tm_6 70 rfl⟩
set_option maxRecDepth 100000 in
theorem lw_p59 : lw_okq (⟨"VerseCommittee$Choices", "choose", "(II)V"⟩, 14) := ⟨⟨by decide +kernel, by decide +kernel⟩, tm_2 59 rfl, tm_6 82 rfl, tm_6 83 rfl⟩
set_option maxRecDepth 100000 in
theorem lw_p60 : lw_okq (⟨"VerseCommittee$Choices", "choiceOfRow", "()I"⟩, 14) := ⟨⟨by decide +kernel, by decide +kernel⟩, tm_2 59 rfl, tm_6 86 rfl, tm_6 87 rfl⟩
set_option maxRecDepth 100000 in
theorem lw_p61 : lw_okq (⟨"VerseCommittee$Choices", "chooseOption", "(III)V"⟩, 14) := ⟨⟨by decide +kernel, by decide +kernel⟩, tm_2 59 rfl, tm_6 90 rfl, tm_6 91 rfl⟩
set_option maxRecDepth 100000 in
theorem lw_p62 : lw_okq (⟨"VerseCommittee", "breaksMeasure", "(LVerseCommittee$Rendering;I)Z"⟩, 14) := ⟨⟨by decide +kernel, by decide +kernel⟩, tm_1 17 rfl, tm_6 101 rfl, tm_6 102 rfl⟩
set_option maxRecDepth 100000 in
theorem lw_p63 : lw_okq (⟨"VerseCommittee", "wordsFixedThen", "(II)[I"⟩, 14) := ⟨⟨by decide +kernel, by decide +kernel⟩, tm_1 17 rfl, tm_6 128 rfl, tm_6 129 rfl⟩
def lw_privs_4 : List (MethodName × Nat) := [(⟨"VerseCommittee$Findings", "isUnlike", "(II)Z"⟩, 13), (⟨"VerseCommittee$Findings", "shareClause", "(II)Z"⟩, 13), (⟨"VerseCommittee$Rendering", "nextSlot", "(II)I"⟩, 14), (⟨"VerseCommittee$Choices", "placeOf", "(I)I"⟩, 14), (⟨"VerseCommittee$Choices", "isOption", "(II)Z"⟩, 14), (⟨"VerseCommittee$Choices", "arePart", "(II)Z"⟩, 14), (⟨"VerseCommittee$Choices", "addPrices", "(LVerseCommittee$Rendering;)V"⟩, 14), (⟨"VerseCommittee$Choices", "barByClauses", "(I[II)V"⟩, 14), (⟨"VerseCommittee$Choices", "barOthers", "(II)V"⟩, 14), (⟨"VerseCommittee$Choices", "mayStand", "(I)Z"⟩, 14), (⟨"VerseCommittee$Choices", "chosen", "(I)I"⟩, 14), (⟨"VerseCommittee$Choices", "choose", "(II)V"⟩, 14), (⟨"VerseCommittee$Choices", "choiceOfRow", "()I"⟩, 14), (⟨"VerseCommittee$Choices", "chooseOption", "(III)V"⟩, 14), (⟨"VerseCommittee", "breaksMeasure", "(LVerseCommittee$Rendering;I)Z"⟩, 14), (⟨"VerseCommittee", "wordsFixedThen", "(II)[I"⟩, 14)]
theorem lw_r4 : ∀ q ∈ lw_privs_4, lw_okq q := List.forall_mem_cons.mpr ⟨lw_p48, List.forall_mem_cons.mpr ⟨lw_p49, List.forall_mem_cons.mpr ⟨lw_p50, List.forall_mem_cons.mpr ⟨lw_p51, List.forall_mem_cons.mpr ⟨lw_p52, List.forall_mem_cons.mpr ⟨lw_p53, List.forall_mem_cons.mpr ⟨lw_p54, List.forall_mem_cons.mpr ⟨lw_p55, List.forall_mem_cons.mpr ⟨lw_p56, List.forall_mem_cons.mpr ⟨lw_p57, List.forall_mem_cons.mpr ⟨lw_p58, List.forall_mem_cons.mpr ⟨lw_p59, List.forall_mem_cons.mpr ⟨lw_p60, List.forall_mem_cons.mpr ⟨lw_p61, List.forall_mem_cons.mpr ⟨lw_p62, List.forall_mem_cons.mpr ⟨lw_p63, fun _ h => absurd h List.not_mem_nil⟩⟩⟩⟩⟩⟩⟩⟩⟩⟩⟩⟩⟩⟩⟩⟩
set_option maxRecDepth 100000 in
theorem lw_p64 : lw_okq (⟨"VerseCommittee$Words", "formIn", "(II)I"⟩, 3) := ⟨⟨by decide +kernel, by decide +kernel⟩, tm_1 25 rfl, tm_6 146 rfl, tm_6 147 rfl⟩
set_option maxRecDepth 100000 in
theorem lw_p65 : lw_okq (⟨"VerseCommittee", "signOfAdded", "(III)I"⟩, 14) := ⟨⟨by decide +kernel, by decide +kernel⟩, tm_1 17 rfl, tm_6 150 rfl, tm_6 151 rfl⟩
set_option maxRecDepth 100000 in
theorem lw_p66 : lw_okq (⟨"VerseCommittee$Planner", "gatherBooks", "()V"⟩, 10) := ⟨⟨by decide +kernel, by decide +kernel⟩, tm_2 109 rfl, tm_6 167 rfl, tm_6 168 rfl⟩
set_option maxRecDepth 100000 in
theorem lw_p67 : lw_okq (⟨"VerseCommittee$Planner", "daysOfCentre", "()I"⟩, 10) := ⟨⟨by decide +kernel, by decide +kernel⟩, tm_2 109 rfl, tm_6 175 rfl, tm_6 176 rfl⟩
set_option maxRecDepth 100000 in
theorem lw_p68 : lw_okq (⟨"VerseCommittee$Planner", "give", "(II)V"⟩, 10) := ⟨⟨by decide +kernel, by decide +kernel⟩, tm_2 109 rfl, tm_6 186 rfl, tm_6 187 rfl⟩
set_option maxRecDepth 100000 in
theorem lw_p69 : lw_okq (⟨"VerseCommittee$Planner", "mayHave", "(II)Z"⟩, 10) := ⟨⟨by decide +kernel, by decide +kernel⟩, tm_2 109 rfl, tm_6 194 rfl, tm_6 195 rfl⟩
set_option maxRecDepth 100000 in
theorem lw_p70 : lw_okq (⟨"VerseCommittee$Planner", "giveTo", "(III)V"⟩, 10) := ⟨⟨by decide +kernel, by decide +kernel⟩, tm_2 109 rfl, tm_6 203 rfl, tm_6 204 rfl⟩
set_option maxRecDepth 100000 in
theorem lw_p71 : lw_okq (⟨"VerseCommittee", "firstWrongByte", "(I)I"⟩, 14) := ⟨⟨by decide +kernel, by decide +kernel⟩, tm_1 17 rfl, tm_6 220 rfl, tm_6 221 rfl⟩
set_option maxRecDepth 100000 in
theorem lw_p72 : lw_okq (⟨"VerseCommittee$Rendering", "leftBits", "()I"⟩, 14) := ⟨⟨by decide +kernel, by decide +kernel⟩, tm_4 154 rfl, tm_6 232 rfl, tm_6 233 rfl⟩
set_option maxRecDepth 100000 in
theorem lw_p73 : lw_okq (⟨"VerseCommittee$Rendering", "tellSlot", "(I)I"⟩, 14) := ⟨⟨by decide +kernel, by decide +kernel⟩, tm_4 154 rfl, tm_6 236 rfl, tm_6 237 rfl⟩
set_option maxRecDepth 100000 in
theorem lw_p74 : lw_okq (⟨"VerseCommitteeModel", "push", "(I)V"⟩, 96) := ⟨⟨by decide +kernel, by decide +kernel⟩, tm_7 31 rfl, tm_8 97 rfl, tm_8 98 rfl⟩
set_option maxRecDepth 100000 in
theorem lw_p75 : lw_okq (⟨"VerseCommitteeModel", "isVerse", "(I)Z"⟩, 96) := ⟨⟨by decide +kernel, by decide +kernel⟩, tm_7 31 rfl, tm_8 109 rfl, tm_8 110 rfl⟩
set_option maxRecDepth 100000 in
theorem lw_p76 : lw_okq (⟨"VerseCommitteeModel", "isSmall", "(I)Z"⟩, 96) := ⟨⟨by decide +kernel, by decide +kernel⟩, tm_7 31 rfl, tm_8 121 rfl, tm_8 122 rfl⟩
set_option maxRecDepth 100000 in
theorem lw_p77 : lw_okq (⟨"VerseCommitteeModel", "isOwn", "(II)Z"⟩, 96) := ⟨⟨by decide +kernel, by decide +kernel⟩, tm_7 31 rfl, tm_8 125 rfl, tm_8 126 rfl⟩
set_option maxRecDepth 100000 in
theorem lw_p78 : lw_okq (⟨"VerseCommitteeModel", "spells", "(III)V"⟩, 96) := ⟨⟨by decide +kernel, by decide +kernel⟩, tm_7 31 rfl, tm_8 129 rfl, tm_8 130 rfl⟩
set_option maxRecDepth 100000 in
theorem lw_p79 : lw_okq (⟨"VerseCommitteeModel", "isWord", "(I)Z"⟩, 96) := ⟨⟨by decide +kernel, by decide +kernel⟩, tm_7 31 rfl, tm_8 137 rfl, tm_8 138 rfl⟩
def lw_privs_5 : List (MethodName × Nat) := [(⟨"VerseCommittee$Words", "formIn", "(II)I"⟩, 3), (⟨"VerseCommittee", "signOfAdded", "(III)I"⟩, 14), (⟨"VerseCommittee$Planner", "gatherBooks", "()V"⟩, 10), (⟨"VerseCommittee$Planner", "daysOfCentre", "()I"⟩, 10), (⟨"VerseCommittee$Planner", "give", "(II)V"⟩, 10), (⟨"VerseCommittee$Planner", "mayHave", "(II)Z"⟩, 10), (⟨"VerseCommittee$Planner", "giveTo", "(III)V"⟩, 10), (⟨"VerseCommittee", "firstWrongByte", "(I)I"⟩, 14), (⟨"VerseCommittee$Rendering", "leftBits", "()I"⟩, 14), (⟨"VerseCommittee$Rendering", "tellSlot", "(I)I"⟩, 14), (⟨"VerseCommitteeModel", "push", "(I)V"⟩, 96), (⟨"VerseCommitteeModel", "isVerse", "(I)Z"⟩, 96), (⟨"VerseCommitteeModel", "isSmall", "(I)Z"⟩, 96), (⟨"VerseCommitteeModel", "isOwn", "(II)Z"⟩, 96), (⟨"VerseCommitteeModel", "spells", "(III)V"⟩, 96), (⟨"VerseCommitteeModel", "isWord", "(I)Z"⟩, 96)]
theorem lw_r5 : ∀ q ∈ lw_privs_5, lw_okq q := List.forall_mem_cons.mpr ⟨lw_p64, List.forall_mem_cons.mpr ⟨lw_p65, List.forall_mem_cons.mpr ⟨lw_p66, List.forall_mem_cons.mpr ⟨lw_p67, List.forall_mem_cons.mpr ⟨lw_p68, List.forall_mem_cons.mpr ⟨lw_p69, List.forall_mem_cons.mpr ⟨lw_p70, List.forall_mem_cons.mpr ⟨lw_p71, List.forall_mem_cons.mpr ⟨lw_p72, List.forall_mem_cons.mpr ⟨lw_p73, List.forall_mem_cons.mpr ⟨lw_p74, List.forall_mem_cons.mpr ⟨lw_p75, List.forall_mem_cons.mpr ⟨lw_p76, List.forall_mem_cons.mpr ⟨lw_p77, List.forall_mem_cons.mpr ⟨lw_p78, List.forall_mem_cons.mpr ⟨lw_p79, fun _ h => absurd h List.not_mem_nil⟩⟩⟩⟩⟩⟩⟩⟩⟩⟩⟩⟩⟩⟩⟩⟩
set_option maxRecDepth 100000 in
theorem lw_p80 : lw_okq (⟨"VerseCommitteeModel", "syllablesOf", "(I)I"⟩, 96) := ⟨⟨by decide +kernel, by decide +kernel⟩, tm_7 31 rfl, tm_8 145 rfl, tm_8 146 rfl⟩
set_option maxRecDepth 100000 in
theorem lw_p81 : lw_okq (⟨"VerseCommitteeModel", "isDay", "(I)Z"⟩, 96) := ⟨⟨by decide +kernel, by decide +kernel⟩, tm_7 31 rfl, tm_8 168 rfl, tm_8 169 rfl⟩
set_option maxRecDepth 100000 in
theorem lw_p82 : lw_okq (⟨"VerseCommitteeModel", "isGood", "()Z"⟩, 96) := ⟨⟨by decide +kernel, by decide +kernel⟩, tm_7 31 rfl, tm_8 172 rfl, tm_8 173 rfl⟩
set_option maxRecDepth 100000 in
theorem lw_p83 : lw_okq (⟨"VerseCommitteeModel", "clause", "()V"⟩, 96) := ⟨⟨by decide +kernel, by decide +kernel⟩, tm_7 31 rfl, tm_8 176 rfl, tm_8 177 rfl⟩
set_option maxRecDepth 100000 in
theorem lw_p84 : lw_okq (⟨"VerseCommitteeModel", "here", "()I"⟩, 96) := ⟨⟨by decide +kernel, by decide +kernel⟩, tm_7 31 rfl, tm_8 180 rfl, tm_8 181 rfl⟩
set_option maxRecDepth 100000 in
theorem lw_p85 : lw_okq (⟨"VerseCommitteeModel", "fails", "(II)V"⟩, 96) := ⟨⟨by decide +kernel, by decide +kernel⟩, tm_7 31 rfl, tm_8 184 rfl, tm_8 185 rfl⟩
set_option maxRecDepth 100000 in
theorem lw_p86 : lw_okq (⟨"VerseCommitteeModel", "readsMust", "(I)V"⟩, 96) := ⟨⟨by decide +kernel, by decide +kernel⟩, tm_7 31 rfl, tm_8 188 rfl, tm_8 189 rfl⟩
set_option maxRecDepth 100000 in
theorem lw_p87 : lw_okq (⟨"VerseCommitteeModel", "readsNumber", "(I)I"⟩, 96) := ⟨⟨by decide +kernel, by decide +kernel⟩, tm_7 31 rfl, tm_8 192 rfl, tm_8 193 rfl⟩
set_option maxRecDepth 100000 in
theorem lw_p88 : lw_okq (⟨"VerseCommitteeModel", "seesDigit", "()Z"⟩, 96) := ⟨⟨by decide +kernel, by decide +kernel⟩, tm_7 31 rfl, tm_8 196 rfl, tm_8 197 rfl⟩
set_option maxRecDepth 100000 in
theorem lw_p89 : lw_okq (⟨"VerseCommitteeModel", "must", "(I)V"⟩, 96) := ⟨⟨by decide +kernel, by decide +kernel⟩, tm_7 31 rfl, tm_8 200 rfl, tm_8 201 rfl⟩
set_option maxRecDepth 100000 in
theorem lw_p90 : lw_okq (⟨"VerseCommitteeModel", "readsRank", "(I)V"⟩, 96) := ⟨⟨by decide +kernel, by decide +kernel⟩, tm_7 31 rfl, tm_8 204 rfl, tm_8 205 rfl⟩
set_option maxRecDepth 100000 in
theorem lw_p91 : lw_okq (⟨"VerseCommitteeModel", "condition", "()V"⟩, 96) := ⟨⟨by decide +kernel, by decide +kernel⟩, tm_7 31 rfl, tm_8 212 rfl, tm_8 213 rfl⟩
set_option maxRecDepth 100000 in
theorem lw_p92 : lw_okq (⟨"VerseCommitteeModel", "opens", "()V"⟩, 96) := ⟨⟨by decide +kernel, by decide +kernel⟩, tm_7 31 rfl, tm_8 216 rfl, tm_8 217 rfl⟩
set_option maxRecDepth 100000 in
theorem lw_p93 : lw_okq (⟨"VerseCommitteeModel", "puts", "(I)V"⟩, 96) := ⟨⟨by decide +kernel, by decide +kernel⟩, tm_7 31 rfl, tm_8 220 rfl, tm_8 221 rfl⟩
set_option maxRecDepth 100000 in
theorem lw_p94 : lw_okq (⟨"VerseCommitteeModel", "piece", "()V"⟩, 96) := ⟨⟨by decide +kernel, by decide +kernel⟩, tm_7 31 rfl, tm_8 224 rfl, tm_8 225 rfl⟩
set_option maxRecDepth 100000 in
theorem lw_p95 : lw_okq (⟨"VerseCommitteeModel", "factor", "()V"⟩, 96) := ⟨⟨by decide +kernel, by decide +kernel⟩, tm_7 31 rfl, tm_8 228 rfl, tm_8 229 rfl⟩
def lw_privs_6 : List (MethodName × Nat) := [(⟨"VerseCommitteeModel", "syllablesOf", "(I)I"⟩, 96), (⟨"VerseCommitteeModel", "isDay", "(I)Z"⟩, 96), (⟨"VerseCommitteeModel", "isGood", "()Z"⟩, 96), (⟨"VerseCommitteeModel", "clause", "()V"⟩, 96), (⟨"VerseCommitteeModel", "here", "()I"⟩, 96), (⟨"VerseCommitteeModel", "fails", "(II)V"⟩, 96), (⟨"VerseCommitteeModel", "readsMust", "(I)V"⟩, 96), (⟨"VerseCommitteeModel", "readsNumber", "(I)I"⟩, 96), (⟨"VerseCommitteeModel", "seesDigit", "()Z"⟩, 96), (⟨"VerseCommitteeModel", "must", "(I)V"⟩, 96), (⟨"VerseCommitteeModel", "readsRank", "(I)V"⟩, 96), (⟨"VerseCommitteeModel", "condition", "()V"⟩, 96), (⟨"VerseCommitteeModel", "opens", "()V"⟩, 96), (⟨"VerseCommitteeModel", "puts", "(I)V"⟩, 96), (⟨"VerseCommitteeModel", "piece", "()V"⟩, 96), (⟨"VerseCommitteeModel", "factor", "()V"⟩, 96)]
theorem lw_r6 : ∀ q ∈ lw_privs_6, lw_okq q := List.forall_mem_cons.mpr ⟨lw_p80, List.forall_mem_cons.mpr ⟨lw_p81, List.forall_mem_cons.mpr ⟨lw_p82, List.forall_mem_cons.mpr ⟨lw_p83, List.forall_mem_cons.mpr ⟨lw_p84, List.forall_mem_cons.mpr ⟨lw_p85, List.forall_mem_cons.mpr ⟨lw_p86, List.forall_mem_cons.mpr ⟨lw_p87, List.forall_mem_cons.mpr ⟨lw_p88, List.forall_mem_cons.mpr ⟨lw_p89, List.forall_mem_cons.mpr ⟨lw_p90, List.forall_mem_cons.mpr ⟨lw_p91, List.forall_mem_cons.mpr ⟨lw_p92, List.forall_mem_cons.mpr ⟨lw_p93, List.forall_mem_cons.mpr ⟨lw_p94, List.forall_mem_cons.mpr ⟨lw_p95, fun _ h => absurd h List.not_mem_nil⟩⟩⟩⟩⟩⟩⟩⟩⟩⟩⟩⟩⟩⟩⟩⟩
set_option maxRecDepth 100000 in
theorem lw_p96 : lw_okq (⟨"VerseCommitteeModel", "emit", "(II)V"⟩, 96) := ⟨⟨by decide +kernel, by decide +kernel⟩, tm_7 31 rfl, tm_8 232 rfl, tm_8 233 rfl⟩
set_option maxRecDepth 100000 in
theorem lw_p97 : lw_okq (⟨"VerseCommitteeModel", "goesOn", "()Z"⟩, 96) := ⟨⟨by decide +kernel, by decide +kernel⟩, tm_7 31 rfl, tm_8 239 rfl, tm_9 0 rfl⟩
set_option maxRecDepth 100000 in
theorem lw_p98 : lw_okq (⟨"VerseCommitteeModel", "sums", "(Z)V"⟩, 96) := ⟨⟨by decide +kernel, by decide +kernel⟩, tm_7 31 rfl, tm_9 9 rfl, tm_9 10 rfl⟩
set_option maxRecDepth 100000 in
theorem lw_p99 : lw_okq (⟨"VerseCommitteeModel", "top", "()I"⟩, 96) := ⟨⟨by decide +kernel, by decide +kernel⟩, tm_7 31 rfl, tm_9 13 rfl, tm_9 14 rfl⟩
set_option maxRecDepth 100000 in
theorem lw_p100 : lw_okq (⟨"VerseCommitteeModel", "ends", "()V"⟩, 96) := ⟨⟨by decide +kernel, by decide +kernel⟩, tm_7 31 rfl, tm_9 20 rfl, tm_9 21 rfl⟩
set_option maxRecDepth 100000 in
theorem lw_p101 : lw_okq (⟨"VerseCommitteeModel", "goesBehind", "()Z"⟩, 96) := ⟨⟨by decide +kernel, by decide +kernel⟩, tm_7 31 rfl, tm_9 24 rfl, tm_9 25 rfl⟩
set_option maxRecDepth 100000 in
theorem lw_p102 : lw_okq (⟨"VerseCommitteeModel", "joins", "(Z)V"⟩, 96) := ⟨⟨by decide +kernel, by decide +kernel⟩, tm_7 31 rfl, tm_9 28 rfl, tm_9 29 rfl⟩
set_option maxRecDepth 100000 in
theorem lw_p103 : lw_okq (⟨"VerseCommitteeModel", "neededAt", "(III)I"⟩, 96) := ⟨⟨by decide +kernel, by decide +kernel⟩, tm_7 31 rfl, tm_9 36 rfl, tm_9 37 rfl⟩
set_option maxRecDepth 100000 in
theorem lw_p104 : lw_okq (⟨"VerseCommitteeModel", "lastOf", "(IIII)I"⟩, 96) := ⟨⟨by decide +kernel, by decide +kernel⟩, tm_7 31 rfl, tm_9 40 rfl, tm_9 41 rfl⟩
set_option maxRecDepth 100000 in
theorem lw_p105 : lw_okq (⟨"VerseCommitteeModel", "isInForce", "(III)Z"⟩, 96) := ⟨⟨by decide +kernel, by decide +kernel⟩, tm_7 31 rfl, tm_9 44 rfl, tm_9 45 rfl⟩
set_option maxRecDepth 100000 in
theorem lw_p106 : lw_okq (⟨"VerseCommitteeModel", "companyOf", "(I)I"⟩, 96) := ⟨⟨by decide +kernel, by decide +kernel⟩, tm_7 31 rfl, tm_9 48 rfl, tm_9 49 rfl⟩
set_option maxRecDepth 100000 in
theorem lw_p107 : lw_okq (⟨"VerseCommitteeModel", "daysOf", "(II)I"⟩, 96) := ⟨⟨by decide +kernel, by decide +kernel⟩, tm_7 31 rfl, tm_9 52 rfl, tm_9 53 rfl⟩
set_option maxRecDepth 100000 in
theorem lw_p108 : lw_okq (⟨"VerseCommitteeModel", "copyOf", "(II)I"⟩, 96) := ⟨⟨by decide +kernel, by decide +kernel⟩, tm_7 31 rfl, tm_9 56 rfl, tm_9 57 rfl⟩
set_option maxRecDepth 100000 in
theorem lw_p109 : lw_okq (⟨"VerseCommitteeModel", "tokensOf", "(II)I"⟩, 96) := ⟨⟨by decide +kernel, by decide +kernel⟩, tm_7 31 rfl, tm_9 60 rfl, tm_9 61 rfl⟩
set_option maxRecDepth 100000 in
theorem lw_p110 : lw_okq (⟨"VerseCommitteeModel", "worth", "(III)I"⟩, 96) := ⟨⟨by decide +kernel, by decide +kernel⟩, tm_7 31 rfl, tm_9 68 rfl, tm_9 69 rfl⟩
set_option maxRecDepth 100000 in
theorem lw_p111 : lw_okq (⟨"VerseCommitteeModel", "does", "(II)V"⟩, 96) := ⟨⟨by decide +kernel, by decide +kernel⟩, tm_7 31 rfl, tm_9 72 rfl, tm_9 73 rfl⟩
def lw_privs_7 : List (MethodName × Nat) := [(⟨"VerseCommitteeModel", "emit", "(II)V"⟩, 96), (⟨"VerseCommitteeModel", "goesOn", "()Z"⟩, 96), (⟨"VerseCommitteeModel", "sums", "(Z)V"⟩, 96), (⟨"VerseCommitteeModel", "top", "()I"⟩, 96), (⟨"VerseCommitteeModel", "ends", "()V"⟩, 96), (⟨"VerseCommitteeModel", "goesBehind", "()Z"⟩, 96), (⟨"VerseCommitteeModel", "joins", "(Z)V"⟩, 96), (⟨"VerseCommitteeModel", "neededAt", "(III)I"⟩, 96), (⟨"VerseCommitteeModel", "lastOf", "(IIII)I"⟩, 96), (⟨"VerseCommitteeModel", "isInForce", "(III)Z"⟩, 96), (⟨"VerseCommitteeModel", "companyOf", "(I)I"⟩, 96), (⟨"VerseCommitteeModel", "daysOf", "(II)I"⟩, 96), (⟨"VerseCommitteeModel", "copyOf", "(II)I"⟩, 96), (⟨"VerseCommitteeModel", "tokensOf", "(II)I"⟩, 96), (⟨"VerseCommitteeModel", "worth", "(III)I"⟩, 96), (⟨"VerseCommitteeModel", "does", "(II)V"⟩, 96)]
theorem lw_r7 : ∀ q ∈ lw_privs_7, lw_okq q := List.forall_mem_cons.mpr ⟨lw_p96, List.forall_mem_cons.mpr ⟨lw_p97, List.forall_mem_cons.mpr ⟨lw_p98, List.forall_mem_cons.mpr ⟨lw_p99, List.forall_mem_cons.mpr ⟨lw_p100, List.forall_mem_cons.mpr ⟨lw_p101, List.forall_mem_cons.mpr ⟨lw_p102, List.forall_mem_cons.mpr ⟨lw_p103, List.forall_mem_cons.mpr ⟨lw_p104, List.forall_mem_cons.mpr ⟨lw_p105, List.forall_mem_cons.mpr ⟨lw_p106, List.forall_mem_cons.mpr ⟨lw_p107, List.forall_mem_cons.mpr ⟨lw_p108, List.forall_mem_cons.mpr ⟨lw_p109, List.forall_mem_cons.mpr ⟨lw_p110, List.forall_mem_cons.mpr ⟨lw_p111, fun _ h => absurd h List.not_mem_nil⟩⟩⟩⟩⟩⟩⟩⟩⟩⟩⟩⟩⟩⟩⟩⟩
set_option maxRecDepth 100000 in
theorem lw_p112 : lw_okq (⟨"VerseCommitteeModel", "valueOf", "(III)I"⟩, 96) := ⟨⟨by decide +kernel, by decide +kernel⟩, tm_7 31 rfl, tm_9 79 rfl, tm_9 80 rfl⟩
set_option maxRecDepth 100000 in
theorem lw_p113 : lw_okq (⟨"VerseCommitteeModel", "fewest", "(II)I"⟩, 96) := ⟨⟨by decide +kernel, by decide +kernel⟩, tm_7 31 rfl, tm_9 87 rfl, tm_9 88 rfl⟩
set_option maxRecDepth 100000 in
theorem lw_p114 : lw_okq (⟨"VerseCommitteeModel", "isOpen", "(I)Z"⟩, 96) := ⟨⟨by decide +kernel, by decide +kernel⟩, tm_7 31 rfl, tm_9 99 rfl, tm_9 100 rfl⟩
set_option maxRecDepth 100000 in
theorem lw_p115 : lw_okq (⟨"VerseCommitteeModel", "isRendering", "(I)Z"⟩, 96) := ⟨⟨by decide +kernel, by decide +kernel⟩, tm_7 31 rfl, tm_9 103 rfl, tm_9 104 rfl⟩
set_option maxRecDepth 100000 in
theorem lw_p116 : lw_okq (⟨"VerseCommitteeModel", "isOfStage", "(III)Z"⟩, 96) := ⟨⟨by decide +kernel, by decide +kernel⟩, tm_7 31 rfl, tm_9 107 rfl, tm_9 108 rfl⟩
set_option maxRecDepth 100000 in
theorem lw_p117 : lw_okq (⟨"VerseCommitteeModel", "fixedOf", "(I)I"⟩, 96) := ⟨⟨by decide +kernel, by decide +kernel⟩, tm_7 31 rfl, tm_9 115 rfl, tm_9 116 rfl⟩
set_option maxRecDepth 100000 in
theorem lw_p118 : lw_okq (⟨"VerseCommitteeModel", "tells", "(II)V"⟩, 96) := ⟨⟨by decide +kernel, by decide +kernel⟩, tm_7 31 rfl, tm_9 119 rfl, tm_9 120 rfl⟩
set_option maxRecDepth 100000 in
theorem lw_p119 : lw_okq (⟨"VerseCommitteeModel", "goesBack", "(II)I"⟩, 96) := ⟨⟨by decide +kernel, by decide +kernel⟩, tm_7 31 rfl, tm_9 127 rfl, tm_9 128 rfl⟩
set_option maxRecDepth 100000 in
theorem lw_p120 : lw_okq (⟨"VerseCommitteeModel", "goesWithout", "(II)Z"⟩, 96) := ⟨⟨by decide +kernel, by decide +kernel⟩, tm_7 31 rfl, tm_9 131 rfl, tm_9 132 rfl⟩
set_option maxRecDepth 100000 in
theorem lw_p121 : lw_okq (⟨"VerseCommitteeModel", "unfixes", "(I)V"⟩, 96) := ⟨⟨by decide +kernel, by decide +kernel⟩, tm_7 31 rfl, tm_9 135 rfl, tm_9 136 rfl⟩
set_option maxRecDepth 100000 in
theorem lw_p122 : lw_okq (⟨"VerseCommitteeModel", "fixedAt", "(II)I"⟩, 96) := ⟨⟨by decide +kernel, by decide +kernel⟩, tm_7 31 rfl, tm_9 147 rfl, tm_9 148 rfl⟩
set_option maxRecDepth 100000 in
theorem lw_p123 : lw_okq (⟨"VerseCommitteeModel", "breachesOf", "(II)I"⟩, 96) := ⟨⟨by decide +kernel, by decide +kernel⟩, tm_7 31 rfl, tm_9 155 rfl, tm_9 156 rfl⟩
set_option maxRecDepth 100000 in
theorem lw_p124 : lw_okq (⟨"VerseCommitteeModel", "isMeant", "(II)Z"⟩, 96) := ⟨⟨by decide +kernel, by decide +kernel⟩, tm_7 31 rfl, tm_9 159 rfl, tm_9 160 rfl⟩
set_option maxRecDepth 100000 in
theorem lw_p125 : lw_okq (⟨"VerseCommitteeModel", "turnsBy", "(III)Z"⟩, 96) := ⟨⟨by decide +kernel, by decide +kernel⟩, tm_7 31 rfl, tm_9 163 rfl, tm_9 164 rfl⟩
set_option maxRecDepth 100000 in
theorem lw_p126 : lw_okq (⟨"VerseCommitteeModel", "quarrelsOf", "(II)I"⟩, 96) := ⟨⟨by decide +kernel, by decide +kernel⟩, tm_7 31 rfl, tm_9 175 rfl, tm_9 176 rfl⟩
set_option maxRecDepth 100000 in
theorem lw_p127 : lw_okq (⟨"VerseCommitteeModel", "isAsked", "(III)Z"⟩, 96) := ⟨⟨by decide +kernel, by decide +kernel⟩, tm_7 31 rfl, tm_9 179 rfl, tm_9 180 rfl⟩
def lw_privs_8 : List (MethodName × Nat) := [(⟨"VerseCommitteeModel", "valueOf", "(III)I"⟩, 96), (⟨"VerseCommitteeModel", "fewest", "(II)I"⟩, 96), (⟨"VerseCommitteeModel", "isOpen", "(I)Z"⟩, 96), (⟨"VerseCommitteeModel", "isRendering", "(I)Z"⟩, 96), (⟨"VerseCommitteeModel", "isOfStage", "(III)Z"⟩, 96), (⟨"VerseCommitteeModel", "fixedOf", "(I)I"⟩, 96), (⟨"VerseCommitteeModel", "tells", "(II)V"⟩, 96), (⟨"VerseCommitteeModel", "goesBack", "(II)I"⟩, 96), (⟨"VerseCommitteeModel", "goesWithout", "(II)Z"⟩, 96), (⟨"VerseCommitteeModel", "unfixes", "(I)V"⟩, 96), (⟨"VerseCommitteeModel", "fixedAt", "(II)I"⟩, 96), (⟨"VerseCommitteeModel", "breachesOf", "(II)I"⟩, 96), (⟨"VerseCommitteeModel", "isMeant", "(II)Z"⟩, 96), (⟨"VerseCommitteeModel", "turnsBy", "(III)Z"⟩, 96), (⟨"VerseCommitteeModel", "quarrelsOf", "(II)I"⟩, 96), (⟨"VerseCommitteeModel", "isAsked", "(III)Z"⟩, 96)]
theorem lw_r8 : ∀ q ∈ lw_privs_8, lw_okq q := List.forall_mem_cons.mpr ⟨lw_p112, List.forall_mem_cons.mpr ⟨lw_p113, List.forall_mem_cons.mpr ⟨lw_p114, List.forall_mem_cons.mpr ⟨lw_p115, List.forall_mem_cons.mpr ⟨lw_p116, List.forall_mem_cons.mpr ⟨lw_p117, List.forall_mem_cons.mpr ⟨lw_p118, List.forall_mem_cons.mpr ⟨lw_p119, List.forall_mem_cons.mpr ⟨lw_p120, List.forall_mem_cons.mpr ⟨lw_p121, List.forall_mem_cons.mpr ⟨lw_p122, List.forall_mem_cons.mpr ⟨lw_p123, List.forall_mem_cons.mpr ⟨lw_p124, List.forall_mem_cons.mpr ⟨lw_p125, List.forall_mem_cons.mpr ⟨lw_p126, List.forall_mem_cons.mpr ⟨lw_p127, fun _ h => absurd h List.not_mem_nil⟩⟩⟩⟩⟩⟩⟩⟩⟩⟩⟩⟩⟩⟩⟩⟩
set_option maxRecDepth 100000 in
theorem lw_p128 : lw_okq (⟨"VerseCommitteeModel", "unlikes", "(I)I"⟩, 96) := ⟨⟨by decide +kernel, by decide +kernel⟩, tm_7 31 rfl, tm_9 187 rfl, tm_9 188 rfl⟩
set_option maxRecDepth 100000 in
theorem lw_p129 : lw_okq (⟨"VerseCommitteeModel", "isUnlike", "(IIII)Z"⟩, 96) := ⟨⟨by decide +kernel, by decide +kernel⟩, tm_7 31 rfl, tm_9 191 rfl, tm_9 192 rfl⟩
set_option maxRecDepth 100000 in
theorem lw_p130 : lw_okq (⟨"VerseCommitteeModel", "areTurnedAlike", "(IIII)Z"⟩, 96) := ⟨⟨by decide +kernel, by decide +kernel⟩, tm_7 31 rfl, tm_9 195 rfl, tm_9 196 rfl⟩
set_option maxRecDepth 100000 in
theorem lw_p131 : lw_okq (⟨"VerseCommitteeModel", "wordOf", "(III)I"⟩, 96) := ⟨⟨by decide +kernel, by decide +kernel⟩, tm_7 31 rfl, tm_9 199 rfl, tm_9 200 rfl⟩
set_option maxRecDepth 100000 in
theorem lw_p132 : lw_okq (⟨"VerseCommitteeModel", "mustBeAlike", "(II)Z"⟩, 96) := ⟨⟨by decide +kernel, by decide +kernel⟩, tm_7 31 rfl, tm_9 203 rfl, tm_9 204 rfl⟩
set_option maxRecDepth 100000 in
theorem lw_p133 : lw_okq (⟨"VerseCommitteeModel", "placeOf", "(I)I"⟩, 96) := ⟨⟨by decide +kernel, by decide +kernel⟩, tm_7 31 rfl, tm_9 211 rfl, tm_9 212 rfl⟩
set_option maxRecDepth 100000 in
theorem lw_p134 : lw_okq (⟨"VerseCommitteeModel", "isChoice", "(I)Z"⟩, 96) := ⟨⟨by decide +kernel, by decide +kernel⟩, tm_7 31 rfl, tm_9 223 rfl, tm_9 224 rfl⟩
set_option maxRecDepth 100000 in
theorem lw_p135 : lw_okq (⟨"VerseCommitteeModel", "prices", "()V"⟩, 96) := ⟨⟨by decide +kernel, by decide +kernel⟩, tm_7 31 rfl, tm_9 230 rfl, tm_9 231 rfl⟩
set_option maxRecDepth 100000 in
theorem lw_p136 : lw_okq (⟨"VerseCommitteeModel", "bars", "(II)V"⟩, 96) := ⟨⟨by decide +kernel, by decide +kernel⟩, tm_7 31 rfl, tm_9 234 rfl, tm_9 235 rfl⟩
set_option maxRecDepth 100000 in
theorem lw_p137 : lw_okq (⟨"VerseCommitteeModel", "mayBe", "(I)Z"⟩, 96) := ⟨⟨by decide +kernel, by decide +kernel⟩, tm_7 31 rfl, tm_9 238 rfl, tm_9 239 rfl⟩
set_option maxRecDepth 100000 in
theorem lw_p138 : lw_okq (⟨"VerseCommitteeModel", "costOf", "(I)I"⟩, 96) := ⟨⟨by decide +kernel, by decide +kernel⟩, tm_7 31 rfl, tm_10 2 rfl, tm_10 3 rfl⟩
set_option maxRecDepth 100000 in
theorem lw_p139 : lw_okq (⟨"VerseCommitteeModel", "isAhead", "(IIII)Z"⟩, 96) := ⟨⟨by decide +kernel, by decide +kernel⟩, tm_7 31 rfl, tm_10 10 rfl, tm_10 11 rfl⟩
set_option maxRecDepth 100000 in
theorem lw_p140 : lw_okq (⟨"VerseCommitteeModel", "isOff", "(I)Z"⟩, 96) := ⟨⟨by decide +kernel, by decide +kernel⟩, tm_7 31 rfl, tm_10 18 rfl, tm_10 19 rfl⟩
set_option maxRecDepth 100000 in
theorem lw_p141 : lw_okq (⟨"VerseCommitteeModel", "prints", "(I)V"⟩, 96) := ⟨⟨by decide +kernel, by decide +kernel⟩, tm_7 31 rfl, tm_10 41 rfl, tm_10 42 rfl⟩
set_option maxRecDepth 100000 in
theorem lw_p142 : lw_okq (⟨"VerseCommitteeModel", "lists", "()V"⟩, 96) := ⟨⟨by decide +kernel, by decide +kernel⟩, tm_7 31 rfl, tm_10 49 rfl, tm_10 50 rfl⟩
set_option maxRecDepth 100000 in
theorem lw_p143 : lw_okq (⟨"VerseCommitteeModel", "bestRow", "()I"⟩, 96) := ⟨⟨by decide +kernel, by decide +kernel⟩, tm_7 31 rfl, tm_10 53 rfl, tm_10 54 rfl⟩
def lw_privs_9 : List (MethodName × Nat) := [(⟨"VerseCommitteeModel", "unlikes", "(I)I"⟩, 96), (⟨"VerseCommitteeModel", "isUnlike", "(IIII)Z"⟩, 96), (⟨"VerseCommitteeModel", "areTurnedAlike", "(IIII)Z"⟩, 96), (⟨"VerseCommitteeModel", "wordOf", "(III)I"⟩, 96), (⟨"VerseCommitteeModel", "mustBeAlike", "(II)Z"⟩, 96), (⟨"VerseCommitteeModel", "placeOf", "(I)I"⟩, 96), (⟨"VerseCommitteeModel", "isChoice", "(I)Z"⟩, 96), (⟨"VerseCommitteeModel", "prices", "()V"⟩, 96), (⟨"VerseCommitteeModel", "bars", "(II)V"⟩, 96), (⟨"VerseCommitteeModel", "mayBe", "(I)Z"⟩, 96), (⟨"VerseCommitteeModel", "costOf", "(I)I"⟩, 96), (⟨"VerseCommitteeModel", "isAhead", "(IIII)Z"⟩, 96), (⟨"VerseCommitteeModel", "isOff", "(I)Z"⟩, 96), (⟨"VerseCommitteeModel", "prints", "(I)V"⟩, 96), (⟨"VerseCommitteeModel", "lists", "()V"⟩, 96), (⟨"VerseCommitteeModel", "bestRow", "()I"⟩, 96)]
theorem lw_r9 : ∀ q ∈ lw_privs_9, lw_okq q := List.forall_mem_cons.mpr ⟨lw_p128, List.forall_mem_cons.mpr ⟨lw_p129, List.forall_mem_cons.mpr ⟨lw_p130, List.forall_mem_cons.mpr ⟨lw_p131, List.forall_mem_cons.mpr ⟨lw_p132, List.forall_mem_cons.mpr ⟨lw_p133, List.forall_mem_cons.mpr ⟨lw_p134, List.forall_mem_cons.mpr ⟨lw_p135, List.forall_mem_cons.mpr ⟨lw_p136, List.forall_mem_cons.mpr ⟨lw_p137, List.forall_mem_cons.mpr ⟨lw_p138, List.forall_mem_cons.mpr ⟨lw_p139, List.forall_mem_cons.mpr ⟨lw_p140, List.forall_mem_cons.mpr ⟨lw_p141, List.forall_mem_cons.mpr ⟨lw_p142, List.forall_mem_cons.mpr ⟨lw_p143, fun _ h => absurd h List.not_mem_nil⟩⟩⟩⟩⟩⟩⟩⟩⟩⟩⟩⟩⟩⟩⟩⟩
set_option maxRecDepth 100000 in
theorem lw_p144 : lw_okq (⟨"VerseCommitteeModel", "rows", "()I"⟩, 96) := ⟨⟨by decide +kernel, by decide +kernel⟩, tm_7 31 rfl, tm_10 57 rfl, tm_10 58 rfl⟩
set_option maxRecDepth 100000 in
theorem lw_p145 : lw_okq (⟨"VerseCommitteeModel", "daysBy", "(I)I"⟩, 96) := ⟨⟨by decide +kernel, by decide +kernel⟩, tm_7 31 rfl, tm_10 61 rfl, tm_10 62 rfl⟩
set_option maxRecDepth 100000 in
theorem lw_p146 : lw_okq (⟨"VerseCommitteeModel", "fixedVerse", "(I)I"⟩, 96) := ⟨⟨by decide +kernel, by decide +kernel⟩, tm_7 31 rfl, tm_10 76 rfl, tm_10 77 rfl⟩
set_option maxRecDepth 100000 in
theorem lw_p147 : lw_okq (⟨"VerseCommitteeModel", "leftOf", "(I)I"⟩, 96) := ⟨⟨by decide +kernel, by decide +kernel⟩, tm_7 31 rfl, tm_10 84 rfl, tm_10 85 rfl⟩
def lw_privs_10 : List (MethodName × Nat) := [(⟨"VerseCommitteeModel", "rows", "()I"⟩, 96), (⟨"VerseCommitteeModel", "daysBy", "(I)I"⟩, 96), (⟨"VerseCommitteeModel", "fixedVerse", "(I)I"⟩, 96), (⟨"VerseCommitteeModel", "leftOf", "(I)I"⟩, 96)]
theorem lw_r10 : ∀ q ∈ lw_privs_10, lw_okq q := List.forall_mem_cons.mpr ⟨lw_p144, List.forall_mem_cons.mpr ⟨lw_p145, List.forall_mem_cons.mpr ⟨lw_p146, List.forall_mem_cons.mpr ⟨lw_p147, fun _ h => absurd h List.not_mem_nil⟩⟩⟩⟩
def lw_privs : List (MethodName × Nat) := lw_privs_1 ++ (lw_privs_2 ++ (lw_privs_3 ++ (lw_privs_4 ++ (lw_privs_5 ++ (lw_privs_6 ++ (lw_privs_7 ++ (lw_privs_8 ++ (lw_privs_9 ++ (lw_privs_10)))))))))
def lw_tbl : List Cond := k2_sels lw_privs ++ tables_1
theorem lw_privs_ok : ∀ q ∈ lw_privs, lw_okq q := by
  show ∀ q ∈ lw_privs_1 ++ (lw_privs_2 ++ (lw_privs_3 ++ (lw_privs_4 ++ (lw_privs_5 ++ (lw_privs_6 ++ (lw_privs_7 ++ (lw_privs_8 ++ (lw_privs_9 ++ (lw_privs_10))))))))), lw_okq q
  exact List.forall_mem_append.mpr ⟨lw_r1, List.forall_mem_append.mpr ⟨lw_r2, List.forall_mem_append.mpr ⟨lw_r3, List.forall_mem_append.mpr ⟨lw_r4, List.forall_mem_append.mpr ⟨lw_r5, List.forall_mem_append.mpr ⟨lw_r6, List.forall_mem_append.mpr ⟨lw_r7, List.forall_mem_append.mpr ⟨lw_r8, List.forall_mem_append.mpr ⟨lw_r9, lw_r10⟩⟩⟩⟩⟩⟩⟩⟩⟩
