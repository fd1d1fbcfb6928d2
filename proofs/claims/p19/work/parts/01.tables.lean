-- ===== PART A: goes FIRST, ahead of the names: the tables' words, and 'selects' of the private methods out of them =====
/-- a private method of a class that the tables say can be made, by its rows of tables_1 -/
def lw_okq (q : MethodName × Nat) : Prop := (q.1.cls ≠ "java/lang/invoke/MethodHandle" ∧ q.1.cls ≠ "java/lang/invoke/VarHandle") ∧ Cond.instantiable q.1.cls q.2 ∈ tables_1 ∧ Cond.privateMethod q.1 ∈ tables_1 ∧ Cond.instanceMethod q.1 ∈ tables_1
def zpick {α : Type} : List Nat → List α → List α
  | _, [] => []
  | [], _ => []
  | 0 :: gs, x :: xs => x :: zpick gs xs
  | (g + 1) :: gs, _ :: xs => zpick (g :: gs) xs
def zpos : List Nat → Nat → Nat
  | [], _ => 0
  | g :: _, 0 => g
  | g :: gs, k + 1 => g + 1 + zpos gs k
theorem zpick_g {α : Type} : ∀ (L : List α) (gs : List Nat) (k : Nat) (e : α), (zpick gs L)[k]? = some e → L[zpos gs k]? = some e
  | [], gs, k, e, h => by unfold zpick at h; cases gs <;> simp at h
  | x :: xs, [], k, e, h => by unfold zpick at h; simp at h
  | x :: xs, 0 :: gs, 0, e, h => by unfold zpick at h; simpa [zpos] using h
  | x :: xs, 0 :: gs, k + 1, e, h => by
    unfold zpick at h
    have := zpick_g xs gs k e (by simpa using h)
    show (x :: xs)[0 + 1 + zpos gs k]? = some e
    rw [show 0 + 1 + zpos gs k = zpos gs k + 1 by omega, List.getElem?_cons_succ]
    exact this
  | x :: xs, (g + 1) :: gs, 0, e, h => by
    unfold zpick at h
    have := zpick_g xs (g :: gs) 0 e h
    show (x :: xs)[g + 1]? = some e
    rw [List.getElem?_cons_succ]
    exact this
  | x :: xs, (g + 1) :: gs, k + 1, e, h => by
    unfold zpick at h
    have := zpick_g xs (g :: gs) (k + 1) e h
    show (x :: xs)[g + 1 + 1 + zpos gs k]? = some e
    rw [show g + 1 + 1 + zpos gs k = (g + 1 + zpos gs k) + 1 by omega, List.getElem?_cons_succ]
    exact this
theorem zpick_m {α : Type} {L : List α} {gs : List Nat} {e : α} (h : e ∈ zpick gs L) : e ∈ L := by
  obtain ⟨k, hk⟩ := List.getElem?_of_mem h
  exact List.mem_of_getElem? (zpick_g L gs k e hk)
def lw_Pg : List Nat := [19, 51, 21, 27, 24, 19, 42, 29, 23, 90, 0, 29, 0, 33, 0, 2, 0, 2, 0, 2, 0, 5, 0, 2, 0, 5, 0, 44, 0, 3, 0, 25, 0, 2, 0, 8, 0, 14, 0, 13, 0, 2, 0, 2, 0, 2, 0, 2, 0, 57, 0, 7, 0, 2, 0, 33, 0, 47, 0, 15, 0, 28, 0, 114, 0, 7, 0, 2, 0, 2, 0, 44, 0, 24, 136, 0, 16, 0, 2, 0, 6, 0, 15, 0, 2, 0, 2, 0, 2, 0, 2, 0, 2, 0, 2, 0, 2, 0, 2, 0, 2, 0, 10, 0, 2, 0, 2, 0, 18, 0, 2, 0, 2, 0, 6, 0, 2, 0, 11, 0, 7, 0, 2, 0, 2, 0, 16, 0, 6, 0, 2, 0, 6, 0, 11, 0, 10, 0, 45, 0, 2, 0, 2, 0, 2, 0, 2, 0, 2, 0, 18, 0, 18, 0]
def lw_Pr : List Cond := [.instantiable "NineOpinions" 10, .instantiable "NineOpinions$Law" 5, .instantiable "NineOpinions$Tape" 6, .instantiable "NineOpinions$Thought" 6, .instantiable "NineOpinions$Turns" 4, .instantiable "NineOpinions$Votes" 1, .instantiable "NineOpinions$Changes" 7, .instantiable "NineOpinions$Bodies" 4, .instantiable "NineOpinions$Shelf" 4, .privateMethod ⟨"NineOpinions", "comes", "(LNineOpinions$Shelf;I)Z"⟩, .instanceMethod ⟨"NineOpinions", "comes", "(LNineOpinions$Shelf;I)Z"⟩, .privateMethod ⟨"NineOpinions$Changes", "forgetOldest", "()V"⟩, .instanceMethod ⟨"NineOpinions$Changes", "forgetOldest", "()V"⟩, .privateMethod ⟨"NineOpinions$Tape", "readLine", "()V"⟩, .instanceMethod ⟨"NineOpinions$Tape", "readLine", "()V"⟩, .privateMethod ⟨"NineOpinions$Tape", "readLevel", "(II)V"⟩, .instanceMethod ⟨"NineOpinions$Tape", "readLevel", "(II)V"⟩, .privateMethod ⟨"NineOpinions$Tape", "readOperand", "(I)V"⟩, .instanceMethod ⟨"NineOpinions$Tape", "readOperand", "(I)V"⟩, .privateMethod ⟨"NineOpinions$Tape", "next", "()I"⟩, .instanceMethod ⟨"NineOpinions$Tape", "next", "()I"⟩, .privateMethod ⟨"NineOpinions$Tape", "readNumber", "()V"⟩, .instanceMethod ⟨"NineOpinions$Tape", "readNumber", "()V"⟩, .privateMethod ⟨"NineOpinions$Tape", "make", "(I)V"⟩, .instanceMethod ⟨"NineOpinions$Tape", "make", "(I)V"⟩, .privateMethod ⟨"NineOpinions$Tape", "goesOnWith", "(C)Z"⟩, .instanceMethod ⟨"NineOpinions$Tape", "goesOnWith", "(C)Z"⟩, .privateMethod ⟨"NineOpinions$Thought", "weigh", "(III)I"⟩, .instanceMethod ⟨"NineOpinions$Thought", "weigh", "(III)I"⟩, .privateMethod ⟨"NineOpinions$Thought", "tellLaw", "(IIII)V"⟩, .instanceMethod ⟨"NineOpinions$Thought", "tellLaw", "(IIII)V"⟩, .privateMethod ⟨"NineOpinions$Law", "push", "(I)V"⟩, .instanceMethod ⟨"NineOpinions$Law", "push", "(I)V"⟩, .privateMethod ⟨"NineOpinions$Law", "pop", "()I"⟩, .instanceMethod ⟨"NineOpinions$Law", "pop", "()I"⟩, .privateMethod ⟨"NineOpinions$Law", "worked", "(II)I"⟩, .instanceMethod ⟨"NineOpinions$Law", "worked", "(II)I"⟩, .privateMethod ⟨"NineOpinions$Thought", "beginWithAll", "()V"⟩, .instanceMethod ⟨"NineOpinions$Thought", "beginWithAll", "()V"⟩, .privateMethod ⟨"NineOpinions$Thought", "weighAllBoards", "()V"⟩, .instanceMethod ⟨"NineOpinions$Thought", "weighAllBoards", "()V"⟩, .privateMethod ⟨"NineOpinions$Thought", "sumUpLeast", "()V"⟩, .instanceMethod ⟨"NineOpinions$Thought", "sumUpLeast", "()V"⟩, .privateMethod ⟨"NineOpinions$Thought", "leastViews", "(II)I"⟩, .instanceMethod ⟨"NineOpinions$Thought", "leastViews", "(II)I"⟩, .privateMethod ⟨"NineOpinions$Thought", "leastWith", "(III)I"⟩, .instanceMethod ⟨"NineOpinions$Thought", "leastWith", "(III)I"⟩, .privateMethod ⟨"NineOpinions$Thought", "leastOf", "(II)I"⟩, .instanceMethod ⟨"NineOpinions$Thought", "leastOf", "(II)I"⟩, .privateMethod ⟨"NineOpinions$Votes", "believersOf", "(I)I"⟩, .instanceMethod ⟨"NineOpinions$Votes", "believersOf", "(I)I"⟩, .privateMethod ⟨"NineOpinions$Votes", "haveMoreThanHalf", "(I)Z"⟩, .instanceMethod ⟨"NineOpinions$Votes", "haveMoreThanHalf", "(I)Z"⟩, .privateMethod ⟨"NineOpinions$Votes", "standingOf", "(I)I"⟩, .instanceMethod ⟨"NineOpinions$Votes", "standingOf", "(I)I"⟩, .privateMethod ⟨"NineOpinions$Turns", "best", "(IIII)I"⟩, .instanceMethod ⟨"NineOpinions$Turns", "best", "(IIII)I"⟩, .privateMethod ⟨"NineOpinions", "writersOf", "(LNineOpinions$Shelf;)I"⟩, .instanceMethod ⟨"NineOpinions", "writersOf", "(LNineOpinions$Shelf;)I"⟩, .privateMethod ⟨"NineOpinions$Votes", "apartOn", "(III)I"⟩, .instanceMethod ⟨"NineOpinions$Votes", "apartOn", "(III)I"⟩, .privateMethod ⟨"NineOpinions$Votes", "standingFor", "(II)I"⟩, .instanceMethod ⟨"NineOpinions$Votes", "standingFor", "(II)I"⟩, .privateMethod ⟨"NineOpinions$Bodies", "run", "(IIIII)I"⟩, .instanceMethod ⟨"NineOpinions$Bodies", "run", "(IIIII)I"⟩, .privateMethod ⟨"NineOpinions$Bodies", "note", "(I)V"⟩, .instanceMethod ⟨"NineOpinions$Bodies", "note", "(I)V"⟩, .privateMethod ⟨"NineOpinions$Bodies", "runRoot", "(IIII)I"⟩, .instanceMethod ⟨"NineOpinions$Bodies", "runRoot", "(IIII)I"⟩, .privateMethod ⟨"NineOpinions$Bodies", "runUnder", "(IIIII)I"⟩, .instanceMethod ⟨"NineOpinions$Bodies", "runUnder", "(IIIII)I"⟩, .privateMethod ⟨"NineOpinions$Shelf", "lowestBits", "(J)J"⟩, .instanceMethod ⟨"NineOpinions$Shelf", "lowestBits", "(J)J"⟩, .instantiable "NineOpinionsModel" 38, .privateMethod ⟨"NineOpinionsModel", "adds", "(II)V"⟩, .instanceMethod ⟨"NineOpinionsModel", "adds", "(II)V"⟩, .privateMethod ⟨"NineOpinionsModel", "placeOf", "(II)I"⟩, .instanceMethod ⟨"NineOpinionsModel", "placeOf", "(II)I"⟩, .privateMethod ⟨"NineOpinionsModel", "isOne", "(J)Z"⟩, .instanceMethod ⟨"NineOpinionsModel", "isOne", "(J)Z"⟩, .privateMethod ⟨"NineOpinionsModel", "becomes", "(II)I"⟩, .instanceMethod ⟨"NineOpinionsModel", "becomes", "(II)I"⟩, .privateMethod ⟨"NineOpinionsModel", "workOut", "(II)I"⟩, .instanceMethod ⟨"NineOpinionsModel", "workOut", "(II)I"⟩, .privateMethod ⟨"NineOpinionsModel", "either", "()I"⟩, .instanceMethod ⟨"NineOpinionsModel", "either", "()I"⟩, .privateMethod ⟨"NineOpinionsModel", "both", "()I"⟩, .instanceMethod ⟨"NineOpinionsModel", "both", "()I"⟩, .privateMethod ⟨"NineOpinionsModel", "compared", "()I"⟩, .instanceMethod ⟨"NineOpinionsModel", "compared", "()I"⟩, .privateMethod ⟨"NineOpinionsModel", "sums", "()I"⟩, .instanceMethod ⟨"NineOpinionsModel", "sums", "()I"⟩, .privateMethod ⟨"NineOpinionsModel", "product", "()I"⟩, .instanceMethod ⟨"NineOpinionsModel", "product", "()I"⟩, .privateMethod ⟨"NineOpinionsModel", "one", "()I"⟩, .instanceMethod ⟨"NineOpinionsModel", "one", "()I"⟩, .privateMethod ⟨"NineOpinionsModel", "byteAt", "()I"⟩, .instanceMethod ⟨"NineOpinionsModel", "byteAt", "()I"⟩, .privateMethod ⟨"NineOpinionsModel", "wrong", "()I"⟩, .instanceMethod ⟨"NineOpinionsModel", "wrong", "()I"⟩, .privateMethod ⟨"NineOpinionsModel", "takes", "(I)Z"⟩, .instanceMethod ⟨"NineOpinionsModel", "takes", "(I)Z"⟩, .privateMethod ⟨"NineOpinionsModel", "begins", "()V"⟩, .instanceMethod ⟨"NineOpinionsModel", "begins", "()V"⟩, .privateMethod ⟨"NineOpinionsModel", "mindsOf", "(III)I"⟩, .instanceMethod ⟨"NineOpinionsModel", "mindsOf", "(III)I"⟩, .privateMethod ⟨"NineOpinionsModel", "viewOf", "(II)I"⟩, .instanceMethod ⟨"NineOpinionsModel", "viewOf", "(II)I"⟩, .privateMethod ⟨"NineOpinionsModel", "ifChanged", "(II)I"⟩, .instanceMethod ⟨"NineOpinionsModel", "ifChanged", "(II)I"⟩, .privateMethod ⟨"NineOpinionsModel", "allMind", "(I)I"⟩, .instanceMethod ⟨"NineOpinionsModel", "allMind", "(I)I"⟩, .privateMethod ⟨"NineOpinionsModel", "mindsAll", "(II)I"⟩, .instanceMethod ⟨"NineOpinionsModel", "mindsAll", "(II)I"⟩, .privateMethod ⟨"NineOpinionsModel", "nearestBoard", "(Z)I"⟩, .instanceMethod ⟨"NineOpinionsModel", "nearestBoard", "(Z)I"⟩, .privateMethod ⟨"NineOpinionsModel", "matterMinds", "(II)I"⟩, .instanceMethod ⟨"NineOpinionsModel", "matterMinds", "(II)I"⟩, .privateMethod ⟨"NineOpinionsModel", "isRoom", "(I)Z"⟩, .instanceMethod ⟨"NineOpinionsModel", "isRoom", "(I)Z"⟩, .privateMethod ⟨"NineOpinionsModel", "mayStrike", "(II)Z"⟩, .instanceMethod ⟨"NineOpinionsModel", "mayStrike", "(II)Z"⟩, .privateMethod ⟨"NineOpinionsModel", "isBelieved", "(II)Z"⟩, .instanceMethod ⟨"NineOpinionsModel", "isBelieved", "(II)Z"⟩, .privateMethod ⟨"NineOpinionsModel", "believers", "(I)I"⟩, .instanceMethod ⟨"NineOpinionsModel", "believers", "(I)I"⟩, .privateMethod ⟨"NineOpinionsModel", "playFrom", "(IIIII)I"⟩, .instanceMethod ⟨"NineOpinionsModel", "playFrom", "(IIIII)I"⟩, .privateMethod ⟨"NineOpinionsModel", "bytesIs", "(I)I"⟩, .instanceMethod ⟨"NineOpinionsModel", "bytesIs", "(I)I"⟩, .privateMethod ⟨"NineOpinionsModel", "firstFalse", "(II)I"⟩, .instanceMethod ⟨"NineOpinionsModel", "firstFalse", "(II)I"⟩, .privateMethod ⟨"NineOpinionsModel", "fitsView", "(III)Z"⟩, .instanceMethod ⟨"NineOpinionsModel", "fitsView", "(III)Z"⟩, .privateMethod ⟨"NineOpinionsModel", "farOf", "(II)I"⟩, .instanceMethod ⟨"NineOpinionsModel", "farOf", "(II)I"⟩, .privateMethod ⟨"NineOpinionsModel", "standingWith", "(I)I"⟩, .instanceMethod ⟨"NineOpinionsModel", "standingWith", "(I)I"⟩, .privateMethod ⟨"NineOpinionsModel", "isBody", "(I)Z"⟩, .instanceMethod ⟨"NineOpinionsModel", "isBody", "(I)Z"⟩, .privateMethod ⟨"NineOpinionsModel", "holdsAs", "(II)I"⟩, .instanceMethod ⟨"NineOpinionsModel", "holdsAs", "(II)I"⟩, .privateMethod ⟨"NineOpinionsModel", "runs", "(I)V"⟩, .instanceMethod ⟨"NineOpinionsModel", "runs", "(I)V"⟩, .privateMethod ⟨"NineOpinionsModel", "mindsAs", "(II)I"⟩, .instanceMethod ⟨"NineOpinionsModel", "mindsAs", "(II)I"⟩, .privateMethod ⟨"NineOpinionsModel", "tradesAs", "(II)I"⟩, .instanceMethod ⟨"NineOpinionsModel", "tradesAs", "(II)I"⟩, .privateMethod ⟨"NineOpinionsModel", "tellsAs", "(II)I"⟩, .instanceMethod ⟨"NineOpinionsModel", "tellsAs", "(II)I"⟩, .privateMethod ⟨"NineOpinionsModel", "refusal", "(II)I"⟩, .instanceMethod ⟨"NineOpinionsModel", "refusal", "(II)I"⟩, .privateMethod ⟨"NineOpinionsModel", "kindOf", "(I)I"⟩, .instanceMethod ⟨"NineOpinionsModel", "kindOf", "(I)I"⟩]
set_option maxRecDepth 100000 in
theorem lw_Pe : zpick lw_Pg tables_1 = lw_Pr := rfl
theorem lw_Pm {i : Nat} {w : Cond} (h : lw_Pr[i]? = some w) : w ∈ tables_1 := zpick_m (gs := lw_Pg) (by rw [lw_Pe]; exact List.mem_of_getElem? h)
theorem lw_Pc0 : "NineOpinions" ≠ "java/lang/invoke/MethodHandle" ∧ "NineOpinions" ≠ "java/lang/invoke/VarHandle" := ⟨by decide +kernel, by decide +kernel⟩
theorem lw_Pc1 : "NineOpinions$Bodies" ≠ "java/lang/invoke/MethodHandle" ∧ "NineOpinions$Bodies" ≠ "java/lang/invoke/VarHandle" := ⟨by decide +kernel, by decide +kernel⟩
theorem lw_Pc2 : "NineOpinions$Changes" ≠ "java/lang/invoke/MethodHandle" ∧ "NineOpinions$Changes" ≠ "java/lang/invoke/VarHandle" := ⟨by decide +kernel, by decide +kernel⟩
theorem lw_Pc3 : "NineOpinions$Law" ≠ "java/lang/invoke/MethodHandle" ∧ "NineOpinions$Law" ≠ "java/lang/invoke/VarHandle" := ⟨by decide +kernel, by decide +kernel⟩
theorem lw_Pc4 : "NineOpinions$Shelf" ≠ "java/lang/invoke/MethodHandle" ∧ "NineOpinions$Shelf" ≠ "java/lang/invoke/VarHandle" := ⟨by decide +kernel, by decide +kernel⟩
theorem lw_Pc5 : "NineOpinions$Tape" ≠ "java/lang/invoke/MethodHandle" ∧ "NineOpinions$Tape" ≠ "java/lang/invoke/VarHandle" := ⟨by decide +kernel, by decide +kernel⟩
theorem lw_Pc6 : "NineOpinions$Thought" ≠ "java/lang/invoke/MethodHandle" ∧ "NineOpinions$Thought" ≠ "java/lang/invoke/VarHandle" := ⟨by decide +kernel, by decide +kernel⟩
theorem lw_Pc7 : "NineOpinions$Turns" ≠ "java/lang/invoke/MethodHandle" ∧ "NineOpinions$Turns" ≠ "java/lang/invoke/VarHandle" := ⟨by decide +kernel, by decide +kernel⟩
theorem lw_Pc8 : "NineOpinions$Votes" ≠ "java/lang/invoke/MethodHandle" ∧ "NineOpinions$Votes" ≠ "java/lang/invoke/VarHandle" := ⟨by decide +kernel, by decide +kernel⟩
theorem lw_Pc9 : "NineOpinionsModel" ≠ "java/lang/invoke/MethodHandle" ∧ "NineOpinionsModel" ≠ "java/lang/invoke/VarHandle" := ⟨by decide +kernel, by decide +kernel⟩
set_option maxRecDepth 10000 in
theorem lw_p0 : lw_okq (⟨"NineOpinions", "comes", "(LNineOpinions$Shelf;I)Z"⟩, 10) := ⟨lw_Pc0, lw_Pm (i := 0) rfl, lw_Pm (i := 9) rfl, lw_Pm (i := 10) rfl⟩
set_option maxRecDepth 10000 in
theorem lw_p1 : lw_okq (⟨"NineOpinions$Changes", "forgetOldest", "()V"⟩, 7) := ⟨lw_Pc2, lw_Pm (i := 6) rfl, lw_Pm (i := 11) rfl, lw_Pm (i := 12) rfl⟩
set_option maxRecDepth 10000 in
theorem lw_p2 : lw_okq (⟨"NineOpinions$Tape", "readLine", "()V"⟩, 6) := ⟨lw_Pc5, lw_Pm (i := 2) rfl, lw_Pm (i := 13) rfl, lw_Pm (i := 14) rfl⟩
set_option maxRecDepth 10000 in
theorem lw_p3 : lw_okq (⟨"NineOpinions$Tape", "readLevel", "(II)V"⟩, 6) := ⟨lw_Pc5, lw_Pm (i := 2) rfl, lw_Pm (i := 15) rfl, lw_Pm (i := 16) rfl⟩
set_option maxRecDepth 10000 in
theorem lw_p4 : lw_okq (⟨"NineOpinions$Tape", "readOperand", "(I)V"⟩, 6) := ⟨lw_Pc5, lw_Pm (i := 2) rfl, lw_Pm (i := 17) rfl, lw_Pm (i := 18) rfl⟩
set_option maxRecDepth 10000 in
theorem lw_p5 : lw_okq (⟨"NineOpinions$Tape", "next", "()I"⟩, 6) := ⟨lw_Pc5, lw_Pm (i := 2) rfl, lw_Pm (i := 19) rfl, lw_Pm (i := 20) rfl⟩
set_option maxRecDepth 10000 in
theorem lw_p6 : lw_okq (⟨"NineOpinions$Tape", "readNumber", "()V"⟩, 6) := ⟨lw_Pc5, lw_Pm (i := 2) rfl, lw_Pm (i := 21) rfl, lw_Pm (i := 22) rfl⟩
set_option maxRecDepth 10000 in
theorem lw_p7 : lw_okq (⟨"NineOpinions$Tape", "make", "(I)V"⟩, 6) := ⟨lw_Pc5, lw_Pm (i := 2) rfl, lw_Pm (i := 23) rfl, lw_Pm (i := 24) rfl⟩
set_option maxRecDepth 10000 in
theorem lw_p8 : lw_okq (⟨"NineOpinions$Tape", "goesOnWith", "(C)Z"⟩, 6) := ⟨lw_Pc5, lw_Pm (i := 2) rfl, lw_Pm (i := 25) rfl, lw_Pm (i := 26) rfl⟩
set_option maxRecDepth 10000 in
theorem lw_p9 : lw_okq (⟨"NineOpinions$Thought", "weigh", "(III)I"⟩, 6) := ⟨lw_Pc6, lw_Pm (i := 3) rfl, lw_Pm (i := 27) rfl, lw_Pm (i := 28) rfl⟩
set_option maxRecDepth 10000 in
theorem lw_p10 : lw_okq (⟨"NineOpinions$Thought", "tellLaw", "(IIII)V"⟩, 6) := ⟨lw_Pc6, lw_Pm (i := 3) rfl, lw_Pm (i := 29) rfl, lw_Pm (i := 30) rfl⟩
set_option maxRecDepth 10000 in
theorem lw_p11 : lw_okq (⟨"NineOpinions$Law", "push", "(I)V"⟩, 5) := ⟨lw_Pc3, lw_Pm (i := 1) rfl, lw_Pm (i := 31) rfl, lw_Pm (i := 32) rfl⟩
set_option maxRecDepth 10000 in
theorem lw_p12 : lw_okq (⟨"NineOpinions$Law", "pop", "()I"⟩, 5) := ⟨lw_Pc3, lw_Pm (i := 1) rfl, lw_Pm (i := 33) rfl, lw_Pm (i := 34) rfl⟩
set_option maxRecDepth 10000 in
theorem lw_p13 : lw_okq (⟨"NineOpinions$Law", "worked", "(II)I"⟩, 5) := ⟨lw_Pc3, lw_Pm (i := 1) rfl, lw_Pm (i := 35) rfl, lw_Pm (i := 36) rfl⟩
set_option maxRecDepth 10000 in
theorem lw_p14 : lw_okq (⟨"NineOpinions$Thought", "beginWithAll", "()V"⟩, 6) := ⟨lw_Pc6, lw_Pm (i := 3) rfl, lw_Pm (i := 37) rfl, lw_Pm (i := 38) rfl⟩
set_option maxRecDepth 10000 in
theorem lw_p15 : lw_okq (⟨"NineOpinions$Thought", "weighAllBoards", "()V"⟩, 6) := ⟨lw_Pc6, lw_Pm (i := 3) rfl, lw_Pm (i := 39) rfl, lw_Pm (i := 40) rfl⟩
def lw_privs_1 : List (MethodName × Nat) := [(⟨"NineOpinions", "comes", "(LNineOpinions$Shelf;I)Z"⟩, 10), (⟨"NineOpinions$Changes", "forgetOldest", "()V"⟩, 7), (⟨"NineOpinions$Tape", "readLine", "()V"⟩, 6), (⟨"NineOpinions$Tape", "readLevel", "(II)V"⟩, 6), (⟨"NineOpinions$Tape", "readOperand", "(I)V"⟩, 6), (⟨"NineOpinions$Tape", "next", "()I"⟩, 6), (⟨"NineOpinions$Tape", "readNumber", "()V"⟩, 6), (⟨"NineOpinions$Tape", "make", "(I)V"⟩, 6), (⟨"NineOpinions$Tape", "goesOnWith", "(C)Z"⟩, 6), (⟨"NineOpinions$Thought", "weigh", "(III)I"⟩, 6), (⟨"NineOpinions$Thought", "tellLaw", "(IIII)V"⟩, 6), (⟨"NineOpinions$Law", "push", "(I)V"⟩, 5), (⟨"NineOpinions$Law", "pop", "()I"⟩, 5), (⟨"NineOpinions$Law", "worked", "(II)I"⟩, 5), (⟨"NineOpinions$Thought", "beginWithAll", "()V"⟩, 6), (⟨"NineOpinions$Thought", "weighAllBoards", "()V"⟩, 6)]
theorem lw_r1 : ∀ q ∈ lw_privs_1, lw_okq q := List.forall_mem_cons.mpr ⟨lw_p0, List.forall_mem_cons.mpr ⟨lw_p1, List.forall_mem_cons.mpr ⟨lw_p2, List.forall_mem_cons.mpr ⟨lw_p3, List.forall_mem_cons.mpr ⟨lw_p4, List.forall_mem_cons.mpr ⟨lw_p5, List.forall_mem_cons.mpr ⟨lw_p6, List.forall_mem_cons.mpr ⟨lw_p7, List.forall_mem_cons.mpr ⟨lw_p8, List.forall_mem_cons.mpr ⟨lw_p9, List.forall_mem_cons.mpr ⟨lw_p10, List.forall_mem_cons.mpr ⟨lw_p11, List.forall_mem_cons.mpr ⟨lw_p12, List.forall_mem_cons.mpr ⟨lw_p13, List.forall_mem_cons.mpr ⟨lw_p14, List.forall_mem_cons.mpr ⟨lw_p15, fun _ h => absurd h List.not_mem_nil⟩⟩⟩⟩⟩⟩⟩⟩⟩⟩⟩⟩⟩⟩⟩⟩
set_option maxRecDepth 10000 in
theorem lw_p16 : lw_okq (⟨"NineOpinions$Thought", "sumUpLeast", "()V"⟩, 6) := ⟨lw_Pc6, lw_Pm (i := 3) rfl, lw_Pm (i := 41) rfl, lw_Pm (i := 42) rfl⟩
set_option maxRecDepth 10000 in
theorem lw_p17 : lw_okq (⟨"NineOpinions$Thought", "leastViews", "(II)I"⟩, 6) := ⟨lw_Pc6, lw_Pm (i := 3) rfl, lw_Pm (i := 43) rfl, lw_Pm (i := 44) rfl⟩
set_option maxRecDepth 10000 in
theorem lw_p18 : lw_okq (⟨"NineOpinions$Thought", "leastWith", "(III)I"⟩, 6) := ⟨lw_Pc6, lw_Pm (i := 3) rfl, lw_Pm (i := 45) rfl, lw_Pm (i := 46) rfl⟩
set_option maxRecDepth 10000 in
theorem lw_p19 : lw_okq (⟨"NineOpinions$Thought", "leastOf", "(II)I"⟩, 6) := ⟨lw_Pc6, lw_Pm (i := 3) rfl, lw_Pm (i := 47) rfl, lw_Pm (i := 48) rfl⟩
set_option maxRecDepth 10000 in
theorem lw_p20 : lw_okq (⟨"NineOpinions$Votes", "believersOf", "(I)I"⟩, 1) := ⟨lw_Pc8, lw_Pm (i := 5) rfl, lw_Pm (i := 49) rfl, lw_Pm (i := 50) rfl⟩
set_option maxRecDepth 10000 in
theorem lw_p21 : lw_okq (⟨"NineOpinions$Votes", "haveMoreThanHalf", "(I)Z"⟩, 1) := ⟨lw_Pc8, lw_Pm (i := 5) rfl, lw_Pm (i := 51) rfl, lw_Pm (i := 52) rfl⟩
set_option maxRecDepth 10000 in
theorem lw_p22 : lw_okq (⟨"NineOpinions$Votes", "standingOf", "(I)I"⟩, 1) := ⟨lw_Pc8, lw_Pm (i := 5) rfl, lw_Pm (i := 53) rfl, lw_Pm (i := 54) rfl⟩
set_option maxRecDepth 10000 in
theorem lw_p23 : lw_okq (⟨"NineOpinions$Turns", "best", "(IIII)I"⟩, 4) := ⟨lw_Pc7, lw_Pm (i := 4) rfl, lw_Pm (i := 55) rfl, lw_Pm (i := 56) rfl⟩
set_option maxRecDepth 10000 in
theorem lw_p24 : lw_okq (⟨"NineOpinions", "writersOf", "(LNineOpinions$Shelf;)I"⟩, 10) := ⟨lw_Pc0, lw_Pm (i := 0) rfl, lw_Pm (i := 57) rfl, lw_Pm (i := 58) rfl⟩
set_option maxRecDepth 10000 in
theorem lw_p25 : lw_okq (⟨"NineOpinions$Votes", "apartOn", "(III)I"⟩, 1) := ⟨lw_Pc8, lw_Pm (i := 5) rfl, lw_Pm (i := 59) rfl, lw_Pm (i := 60) rfl⟩
set_option maxRecDepth 10000 in
theorem lw_p26 : lw_okq (⟨"NineOpinions$Votes", "standingFor", "(II)I"⟩, 1) := ⟨lw_Pc8, lw_Pm (i := 5) rfl, lw_Pm (i := 61) rfl, lw_Pm (i := 62) rfl⟩
set_option maxRecDepth 10000 in
theorem lw_p27 : lw_okq (⟨"NineOpinions$Bodies", "run", "(IIIII)I"⟩, 4) := ⟨lw_Pc1, lw_Pm (i := 7) rfl, lw_Pm (i := 63) rfl, lw_Pm (i := 64) rfl⟩
set_option maxRecDepth 10000 in
theorem lw_p28 : lw_okq (⟨"NineOpinions$Bodies", "note", "(I)V"⟩, 4) := ⟨lw_Pc1, lw_Pm (i := 7) rfl, lw_Pm (i := 65) rfl, lw_Pm (i := 66) rfl⟩
set_option maxRecDepth 10000 in
theorem lw_p29 : lw_okq (⟨"NineOpinions$Bodies", "runRoot", "(IIII)I"⟩, 4) := ⟨lw_Pc1, lw_Pm (i := 7) rfl, lw_Pm (i := 67) rfl, lw_Pm (i := 68) rfl⟩
set_option maxRecDepth 10000 in
theorem lw_p30 : lw_okq (⟨"NineOpinions$Bodies", "runUnder", "(IIIII)I"⟩, 4) := ⟨lw_Pc1, lw_Pm (i := 7) rfl, lw_Pm (i := 69) rfl, lw_Pm (i := 70) rfl⟩
set_option maxRecDepth 10000 in
theorem lw_p31 : lw_okq (⟨"NineOpinions$Shelf", "lowestBits", "(J)J"⟩, 4) := ⟨lw_Pc4, lw_Pm (i := 8) rfl, lw_Pm (i := 71) rfl, lw_Pm (i := 72) rfl⟩
def lw_privs_2 : List (MethodName × Nat) := [(⟨"NineOpinions$Thought", "sumUpLeast", "()V"⟩, 6), (⟨"NineOpinions$Thought", "leastViews", "(II)I"⟩, 6), (⟨"NineOpinions$Thought", "leastWith", "(III)I"⟩, 6), (⟨"NineOpinions$Thought", "leastOf", "(II)I"⟩, 6), (⟨"NineOpinions$Votes", "believersOf", "(I)I"⟩, 1), (⟨"NineOpinions$Votes", "haveMoreThanHalf", "(I)Z"⟩, 1), (⟨"NineOpinions$Votes", "standingOf", "(I)I"⟩, 1), (⟨"NineOpinions$Turns", "best", "(IIII)I"⟩, 4), (⟨"NineOpinions", "writersOf", "(LNineOpinions$Shelf;)I"⟩, 10), (⟨"NineOpinions$Votes", "apartOn", "(III)I"⟩, 1), (⟨"NineOpinions$Votes", "standingFor", "(II)I"⟩, 1), (⟨"NineOpinions$Bodies", "run", "(IIIII)I"⟩, 4), (⟨"NineOpinions$Bodies", "note", "(I)V"⟩, 4), (⟨"NineOpinions$Bodies", "runRoot", "(IIII)I"⟩, 4), (⟨"NineOpinions$Bodies", "runUnder", "(IIIII)I"⟩, 4), (⟨"NineOpinions$Shelf", "lowestBits", "(J)J"⟩, 4)]
theorem lw_r2 : ∀ q ∈ lw_privs_2, lw_okq q := List.forall_mem_cons.mpr ⟨lw_p16, List.forall_mem_cons.mpr ⟨lw_p17, List.forall_mem_cons.mpr ⟨lw_p18, List.forall_mem_cons.mpr ⟨lw_p19, List.forall_mem_cons.mpr ⟨lw_p20, List.forall_mem_cons.mpr ⟨lw_p21, List.forall_mem_cons.mpr ⟨lw_p22, List.forall_mem_cons.mpr ⟨lw_p23, List.forall_mem_cons.mpr ⟨lw_p24, List.forall_mem_cons.mpr ⟨lw_p25, List.forall_mem_cons.mpr ⟨lw_p26, List.forall_mem_cons.mpr ⟨lw_p27, List.forall_mem_cons.mpr ⟨lw_p28, List.forall_mem_cons.mpr ⟨lw_p29, List.forall_mem_cons.mpr ⟨lw_p30, List.forall_mem_cons.mpr ⟨lw_p31, fun _ h => absurd h List.not_mem_nil⟩⟩⟩⟩⟩⟩⟩⟩⟩⟩⟩⟩⟩⟩⟩⟩
set_option maxRecDepth 10000 in
theorem lw_p32 : lw_okq (⟨"NineOpinionsModel", "adds", "(II)V"⟩, 38) := ⟨lw_Pc9, lw_Pm (i := 73) rfl, lw_Pm (i := 74) rfl, lw_Pm (i := 75) rfl⟩
set_option maxRecDepth 10000 in
theorem lw_p33 : lw_okq (⟨"NineOpinionsModel", "placeOf", "(II)I"⟩, 38) := ⟨lw_Pc9, lw_Pm (i := 73) rfl, lw_Pm (i := 76) rfl, lw_Pm (i := 77) rfl⟩
set_option maxRecDepth 10000 in
theorem lw_p34 : lw_okq (⟨"NineOpinionsModel", "isOne", "(J)Z"⟩, 38) := ⟨lw_Pc9, lw_Pm (i := 73) rfl, lw_Pm (i := 78) rfl, lw_Pm (i := 79) rfl⟩
set_option maxRecDepth 10000 in
theorem lw_p35 : lw_okq (⟨"NineOpinionsModel", "becomes", "(II)I"⟩, 38) := ⟨lw_Pc9, lw_Pm (i := 73) rfl, lw_Pm (i := 80) rfl, lw_Pm (i := 81) rfl⟩
set_option maxRecDepth 10000 in
theorem lw_p36 : lw_okq (⟨"NineOpinionsModel", "workOut", "(II)I"⟩, 38) := ⟨lw_Pc9, lw_Pm (i := 73) rfl, lw_Pm (i := 82) rfl, lw_Pm (i := 83) rfl⟩
set_option maxRecDepth 10000 in
theorem lw_p37 : lw_okq (⟨"NineOpinionsModel", "either", "()I"⟩, 38) := ⟨lw_Pc9, lw_Pm (i := 73) rfl, lw_Pm (i := 84) rfl, lw_Pm (i := 85) rfl⟩
set_option maxRecDepth 10000 in
theorem lw_p38 : lw_okq (⟨"NineOpinionsModel", "both", "()I"⟩, 38) := ⟨lw_Pc9, lw_Pm (i := 73) rfl, lw_Pm (i := 86) rfl, lw_Pm (i := 87) rfl⟩
set_option maxRecDepth 10000 in
theorem lw_p39 : lw_okq (⟨"NineOpinionsModel", "compared", "()I"⟩, 38) := ⟨lw_Pc9, lw_Pm (i := 73) rfl, lw_Pm (i := 88) rfl, lw_Pm (i := 89) rfl⟩
set_option maxRecDepth 10000 in
theorem lw_p40 : lw_okq (⟨"NineOpinionsModel", "sums", "()I"⟩, 38) := ⟨lw_Pc9, lw_Pm (i := 73) rfl, lw_Pm (i := 90) rfl, lw_Pm (i := 91) rfl⟩
set_option maxRecDepth 10000 in
theorem lw_p41 : lw_okq (⟨"NineOpinionsModel", "product", "()I"⟩, 38) := ⟨lw_Pc9, lw_Pm (i := 73) rfl, lw_Pm (i := 92) rfl, lw_Pm (i := 93) rfl⟩
set_option maxRecDepth 10000 in
theorem lw_p42 : lw_okq (⟨"NineOpinionsModel", "one", "()I"⟩, 38) := ⟨lw_Pc9, lw_Pm (i := 73) rfl, lw_Pm (i := 94) rfl, lw_Pm (i := 95) rfl⟩
set_option maxRecDepth 10000 in
theorem lw_p43 : lw_okq (⟨"NineOpinionsModel", "byteAt", "()I"⟩, 38) := ⟨lw_Pc9, lw_Pm (i := 73) rfl, lw_Pm (i := 96) rfl, lw_Pm (i := 97) rfl⟩
set_option maxRecDepth 10000 in
theorem lw_p44 : lw_okq (⟨"NineOpinionsModel", "wrong", "()I"⟩, 38) := ⟨lw_Pc9, lw_Pm (i := 73) rfl, lw_Pm (i := 98) rfl, lw_Pm (i := 99) rfl⟩
set_option maxRecDepth 10000 in
theorem lw_p45 : lw_okq (⟨"NineOpinionsModel", "takes", "(I)Z"⟩, 38) := ⟨lw_Pc9, lw_Pm (i := 73) rfl, lw_Pm (i := 100) rfl, lw_Pm (i := 101) rfl⟩
set_option maxRecDepth 10000 in
theorem lw_p46 : lw_okq (⟨"NineOpinionsModel", "begins", "()V"⟩, 38) := ⟨lw_Pc9, lw_Pm (i := 73) rfl, lw_Pm (i := 102) rfl, lw_Pm (i := 103) rfl⟩
set_option maxRecDepth 10000 in
theorem lw_p47 : lw_okq (⟨"NineOpinionsModel", "mindsOf", "(III)I"⟩, 38) := ⟨lw_Pc9, lw_Pm (i := 73) rfl, lw_Pm (i := 104) rfl, lw_Pm (i := 105) rfl⟩
def lw_privs_3 : List (MethodName × Nat) := [(⟨"NineOpinionsModel", "adds", "(II)V"⟩, 38), (⟨"NineOpinionsModel", "placeOf", "(II)I"⟩, 38), (⟨"NineOpinionsModel", "isOne", "(J)Z"⟩, 38), (⟨"NineOpinionsModel", "becomes", "(II)I"⟩, 38), (⟨"NineOpinionsModel", "workOut", "(II)I"⟩, 38), (⟨"NineOpinionsModel", "either", "()I"⟩, 38), (⟨"NineOpinionsModel", "both", "()I"⟩, 38), (⟨"NineOpinionsModel", "compared", "()I"⟩, 38), (⟨"NineOpinionsModel", "sums", "()I"⟩, 38), (⟨"NineOpinionsModel", "product", "()I"⟩, 38), (⟨"NineOpinionsModel", "one", "()I"⟩, 38), (⟨"NineOpinionsModel", "byteAt", "()I"⟩, 38), (⟨"NineOpinionsModel", "wrong", "()I"⟩, 38), (⟨"NineOpinionsModel", "takes", "(I)Z"⟩, 38), (⟨"NineOpinionsModel", "begins", "()V"⟩, 38), (⟨"NineOpinionsModel", "mindsOf", "(III)I"⟩, 38)]
theorem lw_r3 : ∀ q ∈ lw_privs_3, lw_okq q := List.forall_mem_cons.mpr ⟨lw_p32, List.forall_mem_cons.mpr ⟨lw_p33, List.forall_mem_cons.mpr ⟨lw_p34, List.forall_mem_cons.mpr ⟨lw_p35, List.forall_mem_cons.mpr ⟨lw_p36, List.forall_mem_cons.mpr ⟨lw_p37, List.forall_mem_cons.mpr ⟨lw_p38, List.forall_mem_cons.mpr ⟨lw_p39, List.forall_mem_cons.mpr ⟨lw_p40, List.forall_mem_cons.mpr ⟨lw_p41, List.forall_mem_cons.mpr ⟨lw_p42, List.forall_mem_cons.mpr ⟨lw_p43, List.forall_mem_cons.mpr ⟨lw_p44, List.forall_mem_cons.mpr ⟨lw_p45, List.forall_mem_cons.mpr ⟨lw_p46, List.forall_mem_cons.mpr ⟨lw_p47, fun _ h => absurd h List.not_mem_nil⟩⟩⟩⟩⟩⟩⟩⟩⟩⟩⟩⟩⟩⟩⟩⟩
set_option maxRecDepth 10000 in
theorem lw_p48 : lw_okq (⟨"NineOpinionsModel", "viewOf", "(II)I"⟩, 38) := ⟨lw_Pc9, lw_Pm (i := 73) rfl, lw_Pm (i := 106) rfl, lw_Pm (i := 107) rfl⟩
set_option maxRecDepth 10000 in
theorem lw_p49 : lw_okq (⟨"NineOpinionsModel", "ifChanged", "(II)I"⟩, 38) := ⟨lw_Pc9, lw_Pm (i := 73) rfl, lw_Pm (i := 108) rfl, lw_Pm (i := 109) rfl⟩
set_option maxRecDepth 10000 in
theorem lw_p50 : lw_okq (⟨"NineOpinionsModel", "allMind", "(I)I"⟩, 38) := ⟨lw_Pc9, lw_Pm (i := 73) rfl, lw_Pm (i := 110) rfl, lw_Pm (i := 111) rfl⟩
set_option maxRecDepth 10000 in
theorem lw_p51 : lw_okq (⟨"NineOpinionsModel", "mindsAll", "(II)I"⟩, 38) := ⟨lw_Pc9, lw_Pm (i := 73) rfl, lw_Pm (i := 112) rfl, lw_Pm (i := 113) rfl⟩
set_option maxRecDepth 10000 in
theorem lw_p52 : lw_okq (⟨"NineOpinionsModel", "nearestBoard", "(Z)I"⟩, 38) := ⟨lw_Pc9, lw_Pm (i := 73) rfl, lw_Pm (i := 114) rfl, lw_Pm (i := 115) rfl⟩
set_option maxRecDepth 10000 in
theorem lw_p53 : lw_okq (⟨"NineOpinionsModel", "matterMinds", "(II)I"⟩, 38) := ⟨lw_Pc9, lw_Pm (i := 73) rfl, lw_Pm (i := 116) rfl, lw_Pm (i := 117) rfl⟩
set_option maxRecDepth 10000 in
theorem lw_p54 : lw_okq (⟨"NineOpinionsModel", "isRoom", "(I)Z"⟩, 38) := ⟨lw_Pc9, lw_Pm (i := 73) rfl, lw_Pm (i := 118) rfl, lw_Pm (i := 119) rfl⟩
set_option maxRecDepth 10000 in
theorem lw_p55 : lw_okq (⟨"NineOpinionsModel", "mayStrike", "(II)Z"⟩, 38) := ⟨lw_Pc9, lw_Pm (i := 73) rfl, lw_Pm (i := 120) rfl, lw_Pm (i := 121) rfl⟩
set_option maxRecDepth 10000 in
theorem lw_p56 : lw_okq (⟨"NineOpinionsModel", "isBelieved", "(II)Z"⟩, 38) := ⟨lw_Pc9, lw_Pm (i := 73) rfl, lw_Pm (i := 122) rfl, lw_Pm (i := 123) rfl⟩
set_option maxRecDepth 10000 in
theorem lw_p57 : lw_okq (⟨"NineOpinionsModel", "believers", "(I)I"⟩, 38) := ⟨lw_Pc9, lw_Pm (i := 73) rfl, lw_Pm (i := 124) rfl, lw_Pm (i := 125) rfl⟩
set_option maxRecDepth 10000 in
theorem lw_p58 : lw_okq (⟨"NineOpinionsModel", "playFrom", "(IIIII)I"⟩, 38) := ⟨lw_Pc9, lw_Pm (i := 73) rfl, lw_Pm (i := 126) rfl, lw_Pm (i := 127) rfl⟩
set_option maxRecDepth 10000 in
theorem lw_p59 : lw_okq (⟨"NineOpinionsModel", "bytesIs", "(I)I"⟩, 38) := ⟨lw_Pc9, lw_Pm (i := 73) rfl, lw_Pm (i := 128) rfl, lw_Pm (i := 129) rfl⟩
set_option maxRecDepth 10000 in
theorem lw_p60 : lw_okq (⟨"NineOpinionsModel", "firstFalse", "(II)I"⟩, 38) := ⟨lw_Pc9, lw_Pm (i := 73) rfl, lw_Pm (i := 130) rfl, lw_Pm (i := 131) rfl⟩
set_option maxRecDepth 10000 in
theorem lw_p61 : lw_okq (⟨"NineOpinionsModel", "fitsView", "(III)Z"⟩, 38) := ⟨lw_Pc9, lw_Pm (i := 73) rfl, lw_Pm (i := 132) rfl, lw_Pm (i := 133) rfl⟩
set_option maxRecDepth 10000 in
theorem lw_p62 : lw_okq (⟨"NineOpinionsModel", "farOf", "(II)I"⟩, 38) := ⟨lw_Pc9, lw_Pm (i := 73) rfl, lw_Pm (i := 134) rfl, lw_Pm (i := 135) rfl⟩
set_option maxRecDepth 10000 in
theorem lw_p63 : lw_okq (⟨"NineOpinionsModel", "standingWith", "(I)I"⟩, 38) := ⟨lw_Pc9, lw_Pm (i := 73) rfl, lw_Pm (i := 136) rfl, lw_Pm (i := 137) rfl⟩
def lw_privs_4 : List (MethodName × Nat) := [(⟨"NineOpinionsModel", "viewOf", "(II)I"⟩, 38), (⟨"NineOpinionsModel", "ifChanged", "(II)I"⟩, 38), (⟨"NineOpinionsModel", "allMind", "(I)I"⟩, 38), (⟨"NineOpinionsModel", "mindsAll", "(II)I"⟩, 38), (⟨"NineOpinionsModel", "nearestBoard", "(Z)I"⟩, 38), (⟨"NineOpinionsModel", "matterMinds", "(II)I"⟩, 38), (⟨"NineOpinionsModel", "isRoom", "(I)Z"⟩, 38), (⟨"NineOpinionsModel", "mayStrike", "(II)Z"⟩, 38), (⟨"NineOpinionsModel", "isBelieved", "(II)Z"⟩, 38), (⟨"NineOpinionsModel", "believers", "(I)I"⟩, 38), (⟨"NineOpinionsModel", "playFrom", "(IIIII)I"⟩, 38), (⟨"NineOpinionsModel", "bytesIs", "(I)I"⟩, 38), (⟨"NineOpinionsModel", "firstFalse", "(II)I"⟩, 38), (⟨"NineOpinionsModel", "fitsView", "(III)Z"⟩, 38), (⟨"NineOpinionsModel", "farOf", "(II)I"⟩, 38), (⟨"NineOpinionsModel", "standingWith", "(I)I"⟩, 38)]
theorem lw_r4 : ∀ q ∈ lw_privs_4, lw_okq q := List.forall_mem_cons.mpr ⟨lw_p48, List.forall_mem_cons.mpr ⟨lw_p49, List.forall_mem_cons.mpr ⟨lw_p50, List.forall_mem_cons.mpr ⟨lw_p51, List.forall_mem_cons.mpr ⟨lw_p52, List.forall_mem_cons.mpr ⟨lw_p53, List.forall_mem_cons.mpr ⟨lw_p54, List.forall_mem_cons.mpr ⟨lw_p55, List.forall_mem_cons.mpr ⟨lw_p56, List.forall_mem_cons.mpr ⟨lw_p57, List.forall_mem_cons.mpr ⟨lw_p58, List.forall_mem_cons.mpr ⟨lw_p59, List.forall_mem_cons.mpr ⟨lw_p60, List.forall_mem_cons.mpr ⟨lw_p61, List.forall_mem_cons.mpr ⟨lw_p62, List.forall_mem_cons.mpr ⟨lw_p63, fun _ h => absurd h List.not_mem_nil⟩⟩⟩⟩⟩⟩⟩⟩⟩⟩⟩⟩⟩⟩⟩⟩
set_option maxRecDepth 10000 in
theorem lw_p64 : lw_okq (⟨"NineOpinionsModel", "isBody", "(I)Z"⟩, 38) := ⟨lw_Pc9, lw_Pm (i := 73) rfl, lw_Pm (i := 138) rfl, lw_Pm (i := 139) rfl⟩
set_option maxRecDepth 10000 in
theorem lw_p65 : lw_okq (⟨"NineOpinionsModel", "holdsAs", "(II)I"⟩, 38) := ⟨lw_Pc9, lw_Pm (i := 73) rfl, lw_Pm (i := 140) rfl, lw_Pm (i := 141) rfl⟩
set_option maxRecDepth 10000 in
theorem lw_p66 : lw_okq (⟨"NineOpinionsModel", "runs", "(I)V"⟩, 38) := ⟨lw_Pc9, lw_Pm (i := 73) rfl, lw_Pm (i := 142) rfl, lw_Pm (i := 143) rfl⟩
set_option maxRecDepth 10000 in
theorem lw_p67 : lw_okq (⟨"NineOpinionsModel", "mindsAs", "(II)I"⟩, 38) := ⟨lw_Pc9, lw_Pm (i := 73) rfl, lw_Pm (i := 144) rfl, lw_Pm (i := 145) rfl⟩
set_option maxRecDepth 10000 in
theorem lw_p68 : lw_okq (⟨"NineOpinionsModel", "tradesAs", "(II)I"⟩, 38) := ⟨lw_Pc9, lw_Pm (i := 73) rfl, lw_Pm (i := 146) rfl, lw_Pm (i := 147) rfl⟩
set_option maxRecDepth 10000 in
theorem lw_p69 : lw_okq (⟨"NineOpinionsModel", "tellsAs", "(II)I"⟩, 38) := ⟨lw_Pc9, lw_Pm (i := 73) rfl, lw_Pm (i := 148) rfl, lw_Pm (i := 149) rfl⟩
set_option maxRecDepth 10000 in
theorem lw_p70 : lw_okq (⟨"NineOpinionsModel", "refusal", "(II)I"⟩, 38) := ⟨lw_Pc9, lw_Pm (i := 73) rfl, lw_Pm (i := 150) rfl, lw_Pm (i := 151) rfl⟩
set_option maxRecDepth 10000 in
theorem lw_p71 : lw_okq (⟨"NineOpinionsModel", "kindOf", "(I)I"⟩, 38) := ⟨lw_Pc9, lw_Pm (i := 73) rfl, lw_Pm (i := 152) rfl, lw_Pm (i := 153) rfl⟩
def lw_privs_5 : List (MethodName × Nat) := [(⟨"NineOpinionsModel", "isBody", "(I)Z"⟩, 38), (⟨"NineOpinionsModel", "holdsAs", "(II)I"⟩, 38), (⟨"NineOpinionsModel", "runs", "(I)V"⟩, 38), (⟨"NineOpinionsModel", "mindsAs", "(II)I"⟩, 38), (⟨"NineOpinionsModel", "tradesAs", "(II)I"⟩, 38), (⟨"NineOpinionsModel", "tellsAs", "(II)I"⟩, 38), (⟨"NineOpinionsModel", "refusal", "(II)I"⟩, 38), (⟨"NineOpinionsModel", "kindOf", "(I)I"⟩, 38)]
theorem lw_r5 : ∀ q ∈ lw_privs_5, lw_okq q := List.forall_mem_cons.mpr ⟨lw_p64, List.forall_mem_cons.mpr ⟨lw_p65, List.forall_mem_cons.mpr ⟨lw_p66, List.forall_mem_cons.mpr ⟨lw_p67, List.forall_mem_cons.mpr ⟨lw_p68, List.forall_mem_cons.mpr ⟨lw_p69, List.forall_mem_cons.mpr ⟨lw_p70, List.forall_mem_cons.mpr ⟨lw_p71, fun _ h => absurd h List.not_mem_nil⟩⟩⟩⟩⟩⟩⟩⟩
def lw_privs : List (MethodName × Nat) := lw_privs_1 ++ (lw_privs_2 ++ (lw_privs_3 ++ (lw_privs_4 ++ (lw_privs_5))))
def lw_tbl : List Cond := k2_sels lw_privs ++ tables_1
theorem lw_privs_ok : ∀ q ∈ lw_privs, lw_okq q := by
  show ∀ q ∈ lw_privs_1 ++ (lw_privs_2 ++ (lw_privs_3 ++ (lw_privs_4 ++ (lw_privs_5)))), lw_okq q
  exact List.forall_mem_append.mpr ⟨lw_r1, List.forall_mem_append.mpr ⟨lw_r2, List.forall_mem_append.mpr ⟨lw_r3, List.forall_mem_append.mpr ⟨lw_r4, lw_r5⟩⟩⟩⟩
