-- ===== PART A: goes FIRST, ahead of the names: the tables' words, and 'selects' of the private methods out of them =====
/-- a private method of a class that the tables say can be made, by its rows of tables_1 -/
def lw_okq (q : MethodName × Nat) : Prop := (q.1.cls ≠ "java/lang/invoke/MethodHandle" ∧ q.1.cls ≠ "java/lang/invoke/VarHandle") ∧ Cond.instantiable q.1.cls q.2 ∈ tables_1 ∧ Cond.privateMethod q.1 ∈ tables_1 ∧ Cond.instanceMethod q.1 ∈ tables_1
theorem lw_p0 : lw_okq (⟨"ClauseCourt", "openQuestion", "()V"⟩, 11) := ⟨⟨by decide +kernel, by decide +kernel⟩, List.mem_of_getElem? (i := 15) (by decide +kernel), List.mem_of_getElem? (i := 119) (by decide +kernel), List.mem_of_getElem? (i := 120) (by decide +kernel)⟩
theorem lw_p1 : lw_okq (⟨"ClauseCourt$Docket", "append", "(III)V"⟩, 7) := ⟨⟨by decide +kernel, by decide +kernel⟩, List.mem_of_getElem? (i := 23) (by decide +kernel), List.mem_of_getElem? (i := 127) (by decide +kernel), List.mem_of_getElem? (i := 128) (by decide +kernel)⟩
theorem lw_p2 : lw_okq (⟨"ClauseCourt", "nextModel", "()Z"⟩, 11) := ⟨⟨by decide +kernel, by decide +kernel⟩, List.mem_of_getElem? (i := 15) (by decide +kernel), List.mem_of_getElem? (i := 135) (by decide +kernel), List.mem_of_getElem? (i := 136) (by decide +kernel)⟩
theorem lw_p3 : lw_okq (⟨"ClauseCourt$Search", "propagate", "(LClauseCourt$Docket;)I"⟩, 4) := ⟨⟨by decide +kernel, by decide +kernel⟩, List.mem_of_getElem? (i := 52) (by decide +kernel), List.mem_of_getElem? (i := 144) (by decide +kernel), List.mem_of_getElem? (i := 145) (by decide +kernel)⟩
theorem lw_p4 : lw_okq (⟨"ClauseCourt$Search", "sweep", "(LClauseCourt$Docket;)I"⟩, 4) := ⟨⟨by decide +kernel, by decide +kernel⟩, List.mem_of_getElem? (i := 52) (by decide +kernel), List.mem_of_getElem? (i := 148) (by decide +kernel), List.mem_of_getElem? (i := 149) (by decide +kernel)⟩
theorem lw_p5 : lw_okq (⟨"ClauseCourt$Docket", "has", "(I)Z"⟩, 7) := ⟨⟨by decide +kernel, by decide +kernel⟩, List.mem_of_getElem? (i := 23) (by decide +kernel), List.mem_of_getElem? (i := 160) (by decide +kernel), List.mem_of_getElem? (i := 161) (by decide +kernel)⟩
theorem lw_p6 : lw_okq (⟨"ClauseCourt$Search", "hold", "(II)V"⟩, 4) := ⟨⟨by decide +kernel, by decide +kernel⟩, List.mem_of_getElem? (i := 52) (by decide +kernel), List.mem_of_getElem? (i := 170) (by decide +kernel), List.mem_of_getElem? (i := 171) (by decide +kernel)⟩
theorem lw_p7 : lw_okq (⟨"ClauseCourt$Search", "decide", "(I)V"⟩, 4) := ⟨⟨by decide +kernel, by decide +kernel⟩, List.mem_of_getElem? (i := 52) (by decide +kernel), List.mem_of_getElem? (i := 174) (by decide +kernel), List.mem_of_getElem? (i := 175) (by decide +kernel)⟩
theorem lw_p8 : lw_okq (⟨"ClauseCourt$Search", "learn", "(LClauseCourt$Docket;I)I"⟩, 4) := ⟨⟨by decide +kernel, by decide +kernel⟩, List.mem_of_getElem? (i := 52) (by decide +kernel), List.mem_of_getElem? (i := 181) (by decide +kernel), List.mem_of_getElem? (i := 182) (by decide +kernel)⟩
theorem lw_p9 : lw_okq (⟨"ClauseCourt$Search", "latestDecision", "()I"⟩, 4) := ⟨⟨by decide +kernel, by decide +kernel⟩, List.mem_of_getElem? (i := 52) (by decide +kernel), List.mem_of_getElem? (i := 185) (by decide +kernel), List.mem_of_getElem? (i := 186) (by decide +kernel)⟩
theorem lw_p10 : lw_okq (⟨"ClauseCourt$Search", "deniedFrom", "(I)I"⟩, 4) := ⟨⟨by decide +kernel, by decide +kernel⟩, List.mem_of_getElem? (i := 52) (by decide +kernel), List.mem_of_getElem? (i := 189) (by decide +kernel), List.mem_of_getElem? (i := 190) (by decide +kernel)⟩
theorem lw_p11 : lw_okq (⟨"ClauseCourt$Search", "jumpTarget", "(II)I"⟩, 4) := ⟨⟨by decide +kernel, by decide +kernel⟩, List.mem_of_getElem? (i := 52) (by decide +kernel), List.mem_of_getElem? (i := 204) (by decide +kernel), List.mem_of_getElem? (i := 205) (by decide +kernel)⟩
theorem lw_p12 : lw_okq (⟨"ClauseCourt$Search", "cut", "(I)V"⟩, 4) := ⟨⟨by decide +kernel, by decide +kernel⟩, List.mem_of_getElem? (i := 52) (by decide +kernel), List.mem_of_getElem? (i := 208) (by decide +kernel), List.mem_of_getElem? (i := 209) (by decide +kernel)⟩
theorem lw_p13 : lw_okq (⟨"ClauseCourt$Checker", "checkDerivation", "(LClauseCourt$Docket;I)V"⟩, 1) := ⟨⟨by decide +kernel, by decide +kernel⟩, List.mem_of_getElem? (i := 71) (by decide +kernel), List.mem_of_getElem? (i := 242) (by decide +kernel), List.mem_of_getElem? (i := 243) (by decide +kernel)⟩
theorem lw_p14 : lw_okq (⟨"ClauseCourt$Checker", "linkedClause", "(LClauseCourt$Docket;II)I"⟩, 1) := ⟨⟨by decide +kernel, by decide +kernel⟩, List.mem_of_getElem? (i := 71) (by decide +kernel), List.mem_of_getElem? (i := 247) (by decide +kernel), List.mem_of_getElem? (i := 248) (by decide +kernel)⟩
theorem lw_p15 : lw_okq (⟨"ClauseCourt", "endQuestion", "()V"⟩, 11) := ⟨⟨by decide +kernel, by decide +kernel⟩, List.mem_of_getElem? (i := 15) (by decide +kernel), List.mem_of_getElem? (i := 260) (by decide +kernel), List.mem_of_getElem? (i := 261) (by decide +kernel)⟩
def lw_privs_1 : List (MethodName × Nat) := [(⟨"ClauseCourt", "openQuestion", "()V"⟩, 11), (⟨"ClauseCourt$Docket", "append", "(III)V"⟩, 7), (⟨"ClauseCourt", "nextModel", "()Z"⟩, 11), (⟨"ClauseCourt$Search", "propagate", "(LClauseCourt$Docket;)I"⟩, 4), (⟨"ClauseCourt$Search", "sweep", "(LClauseCourt$Docket;)I"⟩, 4), (⟨"ClauseCourt$Docket", "has", "(I)Z"⟩, 7), (⟨"ClauseCourt$Search", "hold", "(II)V"⟩, 4), (⟨"ClauseCourt$Search", "decide", "(I)V"⟩, 4), (⟨"ClauseCourt$Search", "learn", "(LClauseCourt$Docket;I)I"⟩, 4), (⟨"ClauseCourt$Search", "latestDecision", "()I"⟩, 4), (⟨"ClauseCourt$Search", "deniedFrom", "(I)I"⟩, 4), (⟨"ClauseCourt$Search", "jumpTarget", "(II)I"⟩, 4), (⟨"ClauseCourt$Search", "cut", "(I)V"⟩, 4), (⟨"ClauseCourt$Checker", "checkDerivation", "(LClauseCourt$Docket;I)V"⟩, 1), (⟨"ClauseCourt$Checker", "linkedClause", "(LClauseCourt$Docket;II)I"⟩, 1), (⟨"ClauseCourt", "endQuestion", "()V"⟩, 11)]
theorem lw_r1 : ∀ q ∈ lw_privs_1, lw_okq q := List.forall_mem_cons.mpr ⟨lw_p0, List.forall_mem_cons.mpr ⟨lw_p1, List.forall_mem_cons.mpr ⟨lw_p2, List.forall_mem_cons.mpr ⟨lw_p3, List.forall_mem_cons.mpr ⟨lw_p4, List.forall_mem_cons.mpr ⟨lw_p5, List.forall_mem_cons.mpr ⟨lw_p6, List.forall_mem_cons.mpr ⟨lw_p7, List.forall_mem_cons.mpr ⟨lw_p8, List.forall_mem_cons.mpr ⟨lw_p9, List.forall_mem_cons.mpr ⟨lw_p10, List.forall_mem_cons.mpr ⟨lw_p11, List.forall_mem_cons.mpr ⟨lw_p12, List.forall_mem_cons.mpr ⟨lw_p13, List.forall_mem_cons.mpr ⟨lw_p14, List.forall_mem_cons.mpr ⟨lw_p15, fun _ h => absurd h List.not_mem_nil⟩⟩⟩⟩⟩⟩⟩⟩⟩⟩⟩⟩⟩⟩⟩⟩
theorem lw_p16 : lw_okq (⟨"java/lang/Throwable", "fillInStackTrace", "(I)Ljava/lang/Throwable;"⟩, 6) := ⟨⟨by decide +kernel, by decide +kernel⟩, List.mem_of_getElem? (i := 329) (by decide +kernel), List.mem_of_getElem? (i := 327) (by decide +kernel), List.mem_of_getElem? (i := 328) (by decide +kernel)⟩
theorem lw_p17 : lw_okq (⟨"ClauseCourt", "needLiteral", "(I)V"⟩, 11) := ⟨⟨by decide +kernel, by decide +kernel⟩, List.mem_of_getElem? (i := 15) (by decide +kernel), List.mem_of_getElem? (i := 367) (by decide +kernel), List.mem_of_getElem? (i := 368) (by decide +kernel)⟩
theorem lw_p18 : lw_okq (⟨"ClauseCourtModel", "no", "(I)I"⟩, 12) := ⟨⟨by decide +kernel, by decide +kernel⟩, List.mem_of_getElem? (i := 439) (by decide +kernel), List.mem_of_getElem? (i := 491) (by decide +kernel), List.mem_of_getElem? (i := 492) (by decide +kernel)⟩
theorem lw_p19 : lw_okq (⟨"ClauseCourtModel", "isLiteral", "(I)Z"⟩, 12) := ⟨⟨by decide +kernel, by decide +kernel⟩, List.mem_of_getElem? (i := 439) (by decide +kernel), List.mem_of_getElem? (i := 499) (by decide +kernel), List.mem_of_getElem? (i := 500) (by decide +kernel)⟩
theorem lw_p20 : lw_okq (⟨"ClauseCourtModel", "isModel", "(I)Z"⟩, 12) := ⟨⟨by decide +kernel, by decide +kernel⟩, List.mem_of_getElem? (i := 439) (by decide +kernel), List.mem_of_getElem? (i := 515) (by decide +kernel), List.mem_of_getElem? (i := 516) (by decide +kernel)⟩
theorem lw_p21 : lw_okq (⟨"ClauseCourtModel", "values", "(I)I"⟩, 12) := ⟨⟨by decide +kernel, by decide +kernel⟩, List.mem_of_getElem? (i := 439) (by decide +kernel), List.mem_of_getElem? (i := 519) (by decide +kernel), List.mem_of_getElem? (i := 520) (by decide +kernel)⟩
theorem lw_p22 : lw_okq (⟨"ClauseCourtModel", "forget", "()V"⟩, 12) := ⟨⟨by decide +kernel, by decide +kernel⟩, List.mem_of_getElem? (i := 439) (by decide +kernel), List.mem_of_getElem? (i := 523) (by decide +kernel), List.mem_of_getElem? (i := 524) (by decide +kernel)⟩
theorem lw_p23 : lw_okq (⟨"ClauseCourtModel", "isTrue", "(II)Z"⟩, 12) := ⟨⟨by decide +kernel, by decide +kernel⟩, List.mem_of_getElem? (i := 439) (by decide +kernel), List.mem_of_getElem? (i := 531) (by decide +kernel), List.mem_of_getElem? (i := 532) (by decide +kernel)⟩
def lw_privs_2 : List (MethodName × Nat) := [(⟨"java/lang/Throwable", "fillInStackTrace", "(I)Ljava/lang/Throwable;"⟩, 6), (⟨"ClauseCourt", "needLiteral", "(I)V"⟩, 11), (⟨"ClauseCourtModel", "no", "(I)I"⟩, 12), (⟨"ClauseCourtModel", "isLiteral", "(I)Z"⟩, 12), (⟨"ClauseCourtModel", "isModel", "(I)Z"⟩, 12), (⟨"ClauseCourtModel", "values", "(I)I"⟩, 12), (⟨"ClauseCourtModel", "forget", "()V"⟩, 12), (⟨"ClauseCourtModel", "isTrue", "(II)Z"⟩, 12)]
theorem lw_r2 : ∀ q ∈ lw_privs_2, lw_okq q := List.forall_mem_cons.mpr ⟨lw_p16, List.forall_mem_cons.mpr ⟨lw_p17, List.forall_mem_cons.mpr ⟨lw_p18, List.forall_mem_cons.mpr ⟨lw_p19, List.forall_mem_cons.mpr ⟨lw_p20, List.forall_mem_cons.mpr ⟨lw_p21, List.forall_mem_cons.mpr ⟨lw_p22, List.forall_mem_cons.mpr ⟨lw_p23, fun _ h => absurd h List.not_mem_nil⟩⟩⟩⟩⟩⟩⟩⟩
def lw_privs : List (MethodName × Nat) := lw_privs_1 ++ (lw_privs_2)
def lw_tbl : List Cond := k2_sels lw_privs ++ tables_1
theorem lw_privs_ok : ∀ q ∈ lw_privs, lw_okq q := by
  show ∀ q ∈ lw_privs_1 ++ (lw_privs_2), lw_okq q
  exact List.forall_mem_append.mpr ⟨lw_r1, lw_r2⟩
-- ===== end of PART A =====
/-- the words that stay, whatever the tables learn -/
def lw_G : List Cond := lw_tbl.filter goodWord
theorem lw_G_in : ∀ w ∈ lw_G, w ∈ lw_tbl := fun _ h => (List.mem_filter.mp h).1
theorem z_in {w : Cond} (k : Nat) (h : lw_tbl[k]? = some w) (hg : goodWord w = true := by rfl) : w ∈ lw_G := List.mem_filter.mpr ⟨List.mem_of_getElem? h, hg⟩
theorem z_good {w : Cond} (h : w ∈ lw_G) : w ∈ lw_G ∧ ((w.onTables && w.keeps) = true ∨ ∃ ty, w = .arrayClass ty) := ⟨h, good_of_word (List.mem_filter.mp h).2⟩
/-- the words of a method: its code, and all words of the tables -/
abbrev wz (y : MethodName) (cc : ByteArray) (n : Nat) (r : Option FieldType) : List Cond := Cond.code y cc n r :: lw_G
theorem z_wz {y : MethodName} {cc : ByteArray} {n : Nat} {r : Option FieldType} (h : Cond.code y cc n r ∈ lw_G) : GoodIn lw_G (wz y cc n r) := by
  intro w hw
  rcases List.mem_cons.mp hw with e | e
  · rw [e]; exact z_good h
  · exact z_good e
theorem z_V {own C : String} {k n : Nat} {y : MethodName} {cc : ByteArray} {r : Option FieldType} (h1 : Cond.methodLink own k y ∈ lw_G) (h2 : Cond.instanceMethod y ∈ lw_G) (h3 : Cond.selects C y y ∈ lw_G) (h4 : Cond.initialized C ∈ lw_G) (h5 : Cond.code y cc n r ∈ lw_G) : GoodIn lw_G (wsV own k C y (wz y cc n r)) := by
  intro w hw
  rcases List.mem_append.mp hw with e | e
  · simp only [List.mem_cons, List.not_mem_nil, or_false] at e
    rcases e with e | e | e | e <;> rw [e]
    · exact z_good h1
    · exact z_good h2
    · exact z_good h3
    · exact z_good h4
  · exact z_wz h5 w e
theorem z_S {own : String} {k n : Nat} {y : MethodName} {cc : ByteArray} {r : Option FieldType} (h1 : Cond.methodLink own k y ∈ lw_G) (h2 : Cond.static y ∈ lw_G) (h3 : Cond.initialized y.cls ∈ lw_G) (h5 : Cond.code y cc n r ∈ lw_G) : GoodIn lw_G (va_wsS own k y (wz y cc n r)) := by
  intro w hw
  rcases List.mem_append.mp hw with e | e
  · simp only [List.mem_cons, List.not_mem_nil, or_false] at e
    rcases e with e | e | e <;> rw [e]
    · exact z_good h1
    · exact z_good h2
    · exact z_good h3
  · exact z_wz h5 w e
