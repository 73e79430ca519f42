section
-- ===== PART A: goes FIRST, ahead of the names: the tables' words, and 'selects' of the private methods out of them =====
/-- a private method of a class that the tables say can be made, by its rows of tables_1 -/
def lw_okq (q : MethodName × Nat) : Prop := (q.1.cls ≠ "java/lang/invoke/MethodHandle" ∧ q.1.cls ≠ "java/lang/invoke/VarHandle") ∧ Cond.instantiable q.1.cls q.2 ∈ tables_1 ∧ Cond.privateMethod q.1 ∈ tables_1 ∧ Cond.instanceMethod q.1 ∈ tables_1
theorem lw_p0 : lw_okq (⟨"ClauseCourt", "openQuestion", "()V"⟩, 11) := ⟨⟨by decide +kernel, by decide +kernel⟩, List.mem_of_getElem? (i := 15) (by decide +kernel), List.mem_of_getElem? (i := 119) (by decide +kernel), List.mem_of_getElem? (i := 120) (by decide +kernel)⟩
theorem lw_p1 : lw_okq (⟨"ClauseCourt$Docket", "append", "(III)V"⟩, 7) := ⟨⟨by decide +kernel, by decide +kernel⟩, List.mem_of_getElem? (i := 23) (by decide +kernel), List.mem_of_getElem? (i := 127) (by decide +kernel), List.mem_of_getElem? (i := 128) (by decide +kernel)⟩
theorem lw_p2 : lw_okq (⟨"ClauseCourt", "nextModel", "()Z"⟩, 11) := ⟨⟨by decide +kernel, by decide +kernel⟩, List.mem_of_getElem? (i := 15) (by decide +kernel), List.mem_of_getElem? (i := 135) (by decide +kernel), List.mem_of_getElem? (i := 136) (by decide +kernel)⟩
theorem lw_p3 : lw_okq (⟨"ClauseCourt$Search", "propagate", "(LClauseCourt$Docket;)I"⟩, 4) := ⟨⟨by decide +kernel, by decide +kernel⟩, List.mem_of_getElem? (i := 52) (by decide +kernel), List.mem_of_getElem? (i := 144) (by decide +kernel), List.mem_of_getElem? (i := 145) (by decide +kernel)⟩
theorem lw_p4 : lw_okq (⟨"ClauseCourt$Search", "sweep", "(LClauseCourt$Docket;)I"⟩, 4) := ⟨⟨by decide +kernel, by decide +kernel⟩, List.mem_of_getElem? (i := 52) (by decide +kernel), List.mem_of_getElem? (i := 148) (by decide +kernel), List.mem_of_getElem? (i := 149) (by decide +kernel)⟩
theorem lw_p5 : lw_okq (⟨"ClauseCourt$Docket", "has", "(I)Z"⟩, 7) := ⟨⟨by decide +kernel, by decide +kernel⟩, List.mem_of_getElem? (i := 23) (by decide +kernel), List.mem_of_getElem? (i := 160) (by decide +kernel), List.mem_of_getElem? (i := 161) (by decide +kernel)⟩
theorem lw_p6 : lw_okq (⟨"ClauseCourt$Search", "hold", "(II)V"⟩, 4) := ⟨⟨by decide +kernel, by decide +kernel⟩, List.mem_of_getElem? (i := 52) (by decide +kernel), List.mem_of_getElem? (i := 170) (by decide +kernel), List.mem_of_getElem? (i := 171) (by decide +kernel)⟩
theorem lw_p7 : lw_okq (⟨"ClauseCourt$Search", "decide", "(I)V"⟩, 4) := ⟨⟨by decide +kernel, by decide +kernel⟩, List.mem_of_getElem? (i := 52) (by decide +kernel), List.mem_of_getElem? (i := 174) (by decide +kernel), List.mem_of_getElem? (i := 175) (by decide +kernel)⟩
theorem lw_p8 : lw_okq (⟨"ClauseCourt$Search", "learn", "(LClauseCourt$Docket;I)I"⟩, 4) := ⟨⟨by decide +kernel, by decide +kernel⟩, List.mem_of_getElem? (i := 52) (by decide +kernel), List.mem_of_getElem? (i := 181) (by decide +kernel), List.mem_of_getElem? (i := 182) (by decide +kernel)⟩
theorem lw_p9 : lw_okq (⟨"ClauseCourt$Search", "latestDecision", "()I"⟩, 4) := ⟨⟨by decide +kernel, by decide +kernel⟩, List.mem_of_getElem? (i := 52) (by decide +kernel), List.mem_of_getElem? (i := 185) (by decide +kernel), List.mem_of_getElem? (i := 186) (by decide +kernel)⟩
theorem lw_p10 : lw_okq (⟨"ClauseCourt$Search", "deniedFrom", "(I)I"⟩, 4) := ⟨⟨by decide +kernel, by decide +kernel⟩, List.mem_of_getElem? (i := 52) (by decide +kernel), List.mem_of_getElem? (i := 189) (by decide +kernel), List.mem_of_getElem? (i := 190) (by decide +kernel)⟩
theorem lw_p11 : lw_okq (⟨"ClauseCourt$Search", "jumpTarget", "(II)I"⟩, 4) := ⟨⟨by decide +kernel, by decide +kernel⟩, List.mem_of_getElem? (i := 52) (by decide +kernel), List.mem_of_getElem? (i := 204) (by decide +kernel), List.mem_of_getElem? (i := 205) (by decide +kernel)⟩
theorem lw_p12 : lw_okq (⟨"ClauseCourt$Search", "cut", "(I)V"⟩, 4) := ⟨⟨by decide +kernel, by decide +kernel⟩, List.mem_of_getElem? (i := 52) (by decide +kernel), List.mem_of_getElem? (i := 208) (by decide +kernel), List.mem_of_getElem? (i := 209) (by decide +kernel)⟩
theorem lw_p13 : lw_okq (⟨"ClauseCourt$Checker", "checkDerivation", "(LClauseCourt$Docket;I)V"⟩, 1) := ⟨⟨by decide +kernel, by decide +kernel⟩, List.mem_of_getElem? (i := 71) (by decide +kernel), List.mem_of_getElem? (i := 242) (by decide +kernel), List.mem_of_getElem? (i := 243) (by decide +kernel)⟩
theorem lw_p14 : lw_okq (⟨"ClauseCourt$Checker", "linkedClause", "(LClauseCourt$Docket;II)I"⟩, 1) := ⟨⟨by decide +kernel, by decide +kernel⟩, List.mem_of_getElem? (i := 71) (by decide +kernel), List.mem_of_getElem? (i := 247) (by decide +kernel), List.mem_of_getElem? (i := 248) (by decide +kernel)⟩
theorem lw_p15 : lw_okq (⟨"ClauseCourt", "endQuestion", "()V"⟩, 11) := ⟨⟨by decide +kernel, by decide +kernel⟩, List.mem_of_getElem? (i := 15) (by decide +kernel), List.mem_of_getElem? (i := 260) (by decide +kernel), List.mem_of_getElem? (i := 261) (by decide +kernel)⟩
def lw_privs_1 : List (MethodName × Nat) := [(⟨"ClauseCourt", "openQuestion", "()V"⟩, 11), (⟨"ClauseCourt$Docket", "append", "(III)V"⟩, 7), (⟨"ClauseCourt", "nextModel", "()Z"⟩, 11), (⟨"ClauseCourt$Search", "propagate", "(LClauseCourt$Docket;)I"⟩, 4), (⟨"ClauseCourt$Search", "sweep", "(LClauseCourt$Docket;)I"⟩, 4), (⟨"ClauseCourt$Docket", "has", "(I)Z"⟩, 7), (⟨"ClauseCourt$Search", "hold", "(II)V"⟩, 4), (⟨"ClauseCourt$Search", "decide", "(I)V"⟩, 4), (⟨"ClauseCourt$Search", "learn", "(LClauseCourt$Docket;I)I"⟩, 4), (⟨"ClauseCourt$Search", "latestDecision", "()I"⟩, 4), (⟨"ClauseCourt$Search", "deniedFrom", "(I)I"⟩, 4), (⟨"ClauseCourt$Search", "jumpTarget", "(II)I"⟩, 4), (⟨"ClauseCourt$Search", "cut", "(I)V"⟩, 4), (⟨"ClauseCourt$Checker", "checkDerivation", "(LClauseCourt$Docket;I)V"⟩, 1), (⟨"ClauseCourt$Checker", "linkedClause", "(LClauseCourt$Docket;II)I"⟩, 1), (⟨"ClauseCourt", "endQuestion", "()V"⟩, 11)]
theorem lw_r1 : ∀ q ∈ lw_privs_1, lw_okq q := List.forall_mem_cons.mpr ⟨lw_p0, List.forall_mem_cons.mpr ⟨lw_p1, List.forall_mem_cons.mpr ⟨lw_p2, List.forall_mem_cons.mpr ⟨lw_p3, List.forall_mem_cons.mpr ⟨lw_p4, List.forall_mem_cons.mpr ⟨lw_p5, List.forall_mem_cons.mpr ⟨lw_p6, List.forall_mem_cons.mpr ⟨lw_p7, List.forall_mem_cons.mpr ⟨lw_p8, List.forall_mem_cons.mpr ⟨lw_p9, List.forall_mem_cons.mpr ⟨lw_p10, List.forall_mem_cons.mpr ⟨lw_p11, List.forall_mem_cons.mpr ⟨lw_p12, List.forall_mem_cons.mpr ⟨lw_p13, List.forall_mem_cons.mpr ⟨lw_p14, List.forall_mem_cons.mpr ⟨lw_p15, fun _ h => absurd h List.not_mem_nil⟩⟩⟩⟩⟩⟩⟩⟩⟩⟩⟩⟩⟩⟩⟩⟩
theorem lw_p16 : lw_okq (⟨"java/lang/Throwable", "fillInStackTrace", "(I)Ljava/lang/Throwable;"⟩, 6) := ⟨⟨by decide +kernel, by decide +kernel⟩, List.mem_of_getElem? (i := 329) (by decide +kernel), List.mem_of_getElem? (i := 327) (by decide +kernel), List.mem_of_getElem? (i := 328) (by decide +kernel)⟩
theorem lw_p17 : lw_okq (⟨"ClauseCourt", "needLiteral", "(I)V"⟩, 11) := ⟨⟨by decide +kernel, by decide +kernel⟩, List.mem_of_getElem? (i := 15) (by decide +kernel), List.mem_of_getElem? (i := 367) (by decide +kernel), List.mem_of_getElem? (i := 368) (by decide +kernel)⟩
theorem lw_p18 : lw_okq (⟨"ClauseCourtModel", "no", "(I)I"⟩, 12) := ⟨⟨by decide +kernel, by decide +kernel⟩, List.mem_of_getElem? (i := 439) (by decide +kernel), List.mem_of_getElem? (i := 491) (by decide +kernel), List.mem_of_getElem? (i := 492) (by decide +kernel)⟩
theorem lw_p19 : lw_okq (⟨"ClauseCourtModel", "isLiteral", "(I)Z"⟩, 12) := ⟨⟨by decide +kernel, by decide +kernel⟩, List.mem_of_getElem? (i := 439) (by decide +kernel), List.mem_of_getElem? (i := 499) (by decide +kernel), List.mem_of_getElem? (i := 500) (by decide +kernel)⟩
theorem lw_p20 : lw_okq (⟨"ClauseCourtModel", "isModel", "(I)Z"⟩, 12) := ⟨⟨by decide +kernel, by decide +kernel⟩, List.mem_of_getElem? (i := 439) (by decide +kernel), List.mem_of_getElem? (i := 515) (by decide +kernel), List.mem_of_getElem? (i := 516) (by decide +kernel)⟩
theorem lw_p21 : lw_okq (⟨"ClauseCourtModel", "values", "(I)I"⟩, 12) := ⟨⟨by decide +kernel, by decide +kernel⟩, List.mem_of_getElem? (i := 439) (by decide +kernel), List.mem_of_getElem? (i := 519) (by decide +kernel), List.mem_of_getElem? (i := 520) (by decide +kernel)⟩
theorem lw_p22 : lw_okq (⟨"ClauseCourtModel", "forget", "()V"⟩, 12) := ⟨⟨by decide +kernel, by decide +kernel⟩, List.mem_of_getElem? (i := 439) (by decide +kernel), List.mem_of_getElem? (i := 523) (by decide +kernel), List.mem_of_getElem? (i := 524) (by decide +kernel)⟩
theorem lw_p23 : lw_okq (⟨"ClauseCourtModel", "isTrue", "(II)Z"⟩, 12) := ⟨⟨by decide +kernel, by decide +kernel⟩, List.mem_of_getElem? (i := 439) (by decide +kernel), List.mem_of_getElem? (i := 531) (by decide +kernel), List.mem_of_getElem? (i := 532) (by decide +kernel)⟩
def lw_privs_2 : List (MethodName × Nat) := [(⟨"java/lang/Throwable", "fillInStackTrace", "(I)Ljava/lang/Throwable;"⟩, 6), (⟨"ClauseCourt", "needLiteral", "(I)V"⟩, 11), (⟨"ClauseCourtModel", "no", "(I)I"⟩, 12), (⟨"ClauseCourtModel", "isLiteral", "(I)Z"⟩, 12), (⟨"ClauseCourtModel", "isModel", "(I)Z"⟩, 12), (⟨"ClauseCourtModel", "values", "(I)I"⟩, 12), (⟨"ClauseCourtModel", "forget", "()V"⟩, 12), (⟨"ClauseCourtModel", "isTrue", "(II)Z"⟩, 12)]
theorem lw_r2 : ∀ q ∈ lw_privs_2, lw_okq q := List.forall_mem_cons.mpr ⟨lw_p16, List.forall_mem_cons.mpr ⟨lw_p17, List.forall_mem_cons.mpr ⟨lw_p18, List.forall_mem_cons.mpr ⟨lw_p19, List.forall_mem_cons.mpr ⟨lw_p20, List.forall_mem_cons.mpr ⟨lw_p21, List.forall_mem_cons.mpr ⟨lw_p22, List.forall_mem_cons.mpr ⟨lw_p23, fun _ h => absurd h List.not_mem_nil⟩⟩⟩⟩⟩⟩⟩⟩
def lw_privs : List (MethodName × Nat) := lw_privs_1 ++ (lw_privs_2)
def lw_tbl : List Cond := k2_sels lw_privs ++ tables_1
theorem lw_privs_ok : ∀ q ∈ lw_privs, lw_okq q := by
  show ∀ q ∈ lw_privs_1 ++ (lw_privs_2), lw_okq q
  exact List.forall_mem_append.mpr ⟨lw_r1, lw_r2⟩
-- ===== end of PART A =====
/-- the words that stay, whatever the tables learn -/
def lw_G : List Cond := lw_tbl.filter goodWord
theorem lw_G_in : ∀ w ∈ lw_G, w ∈ lw_tbl := fun _ h => (List.mem_filter.mp h).1
theorem z_in {w : Cond} (k : Nat) (h : lw_tbl[k]? = some w) (hg : goodWord w = true := by rfl) : w ∈ lw_G := List.mem_filter.mpr ⟨List.mem_of_getElem? h, hg⟩
theorem z_good {w : Cond} (h : w ∈ lw_G) : w ∈ lw_G ∧ ((w.onTables && w.keeps) = true ∨ ∃ ty, w = .arrayClass ty) := ⟨h, good_of_word (List.mem_filter.mp h).2⟩
/-- the words of a method: its code, and all words of the tables -/
abbrev wz (y : MethodName) (cc : ByteArray) (n : Nat) (r : Option FieldType) : List Cond := Cond.code y cc n r :: lw_G
theorem z_wz {y : MethodName} {cc : ByteArray} {n : Nat} {r : Option FieldType} (h : Cond.code y cc n r ∈ lw_G) : GoodIn lw_G (wz y cc n r) := by
  intro w hw
  rcases List.mem_cons.mp hw with e | e
  · rw [e]; exact z_good h
  · exact z_good e
theorem z_V {own C : String} {k n : Nat} {y : MethodName} {cc : ByteArray} {r : Option FieldType} (h1 : Cond.methodLink own k y ∈ lw_G) (h2 : Cond.instanceMethod y ∈ lw_G) (h3 : Cond.selects C y y ∈ lw_G) (h4 : Cond.initialized C ∈ lw_G) (h5 : Cond.code y cc n r ∈ lw_G) : GoodIn lw_G (wsV own k C y (wz y cc n r)) := by
  intro w hw
  rcases List.mem_append.mp hw with e | e
  · simp only [List.mem_cons, List.not_mem_nil, or_false] at e
    rcases e with e | e | e | e <;> rw [e]
    · exact z_good h1
    · exact z_good h2
    · exact z_good h3
    · exact z_good h4
  · exact z_wz h5 w e
theorem z_S {own : String} {k n : Nat} {y : MethodName} {cc : ByteArray} {r : Option FieldType} (h1 : Cond.methodLink own k y ∈ lw_G) (h2 : Cond.static y ∈ lw_G) (h3 : Cond.initialized y.cls ∈ lw_G) (h5 : Cond.code y cc n r ∈ lw_G) : GoodIn lw_G (va_wsS own k y (wz y cc n r)) := by
  intro w hw
  rcases List.mem_append.mp hw with e | e
  · simp only [List.mem_cons, List.not_mem_nil, or_false] at e
    rcases e with e | e | e <;> rw [e]
    · exact z_good h1
    · exact z_good h2
    · exact z_good h3
  · exact z_wz h5 w e
end
section
/-! Part 02: names, by program (wip/whole/names.py) out of the listing and the tables -/
def R_H : String := "ClauseCourt$Checker"
def T_H : u_T := fun k => match k with
  | _ => ("ClauseCourt$Checker", "faults", "I", false)
def t_H : Nat → FieldType := fun k => match k with
  | _ => .int
theorem n_H : ∀ a, a < 1 → ∀ b, b < 1 → a ≠ b → (T_H a).2.1 ≠ (T_H b).2.1 := by decide +kernel
theorem t_H_ok : ∀ k, k < 1 → parseFieldDescriptor (T_H k).2.2.1 = some (t_H k) := by decide +kernel
theorem u_H : ∀ w ∈ u_ws R_H T_H 1, w ∈ lw_G := fun w h => List.mem_filter.mpr ⟨(by decide +kernel : ∀ w ∈ u_ws R_H T_H 1, w ∈ lw_tbl) w h, (by decide +kernel : ∀ w ∈ u_ws R_H T_H 1, goodWord w = true) w h⟩
def R_D : String := "ClauseCourt$Docket"
def T_D : u_T := fun k => match k with
  | 0 => ("ClauseCourt$Docket", "clauses", "[I", true)
  | 1 => ("ClauseCourt$Docket", "linksFrom", "[I", true)
  | 2 => ("ClauseCourt$Docket", "linksTo", "[I", true)
  | 3 => ("ClauseCourt$Docket", "links", "[I", true)
  | 4 => ("ClauseCourt$Docket", "size", "I", false)
  | 5 => ("ClauseCourt$Docket", "linked", "I", false)
  | _ => ("ClauseCourt$Docket", "openFrom", "I", false)
def t_D : Nat → FieldType := fun k => match k with
  | 0 => .array .int
  | 1 => .array .int
  | 2 => .array .int
  | 3 => .array .int
  | 4 => .int
  | 5 => .int
  | _ => .int
theorem n_D : ∀ a, a < 7 → ∀ b, b < 7 → a ≠ b → (T_D a).2.1 ≠ (T_D b).2.1 := by decide +kernel
theorem t_D_ok : ∀ k, k < 7 → parseFieldDescriptor (T_D k).2.2.1 = some (t_D k) := by decide +kernel
theorem u_D : ∀ w ∈ u_ws R_D T_D 7, w ∈ lw_G := fun w h => List.mem_filter.mpr ⟨(by decide +kernel : ∀ w ∈ u_ws R_D T_D 7, w ∈ lw_tbl) w h, (by decide +kernel : ∀ w ∈ u_ws R_D T_D 7, goodWord w = true) w h⟩
def R_S : String := "ClauseCourt$Search"
def T_S : u_T := fun k => match k with
  | 0 => ("ClauseCourt$Search", "trail", "[I", true)
  | 1 => ("ClauseCourt$Search", "reasons", "[I", true)
  | 2 => ("ClauseCourt$Search", "length", "I", false)
  | _ => ("ClauseCourt$Search", "held", "I", false)
def t_S : Nat → FieldType := fun k => match k with
  | 0 => .array .int
  | 1 => .array .int
  | 2 => .int
  | _ => .int
theorem n_S : ∀ a, a < 4 → ∀ b, b < 4 → a ≠ b → (T_S a).2.1 ≠ (T_S b).2.1 := by decide +kernel
theorem t_S_ok : ∀ k, k < 4 → parseFieldDescriptor (T_S k).2.2.1 = some (t_S k) := by decide +kernel
theorem u_S : ∀ w ∈ u_ws R_S T_S 4, w ∈ lw_G := fun w h => List.mem_filter.mpr ⟨(by decide +kernel : ∀ w ∈ u_ws R_S T_S 4, w ∈ lw_tbl) w h, (by decide +kernel : ∀ w ∈ u_ws R_S T_S 4, goodWord w = true) w h⟩
def R_C : String := "ClauseCourt"
def T_C : u_T := fun k => match k with
  | 0 => ("ClauseCourt", "docket", "LClauseCourt$Docket;", true)
  | 1 => ("ClauseCourt", "search", "LClauseCourt$Search;", true)
  | 2 => ("ClauseCourt", "checker", "LClauseCourt$Checker;", true)
  | 3 => ("ClauseCourt", "assumptions", "[I", true)
  | 4 => ("ClauseCourt", "assumed", "I", false)
  | 5 => ("ClauseCourt", "variables", "I", false)
  | 6 => ("ClauseCourt", "closed", "I", false)
  | 7 => ("ClauseCourt", "told", "I", false)
  | 8 => ("ClauseCourt", "toldLength", "I", false)
  | 9 => ("ClauseCourt", "hasModel", "Z", false)
  | _ => ("ClauseCourt", "model", "I", false)
def t_C : Nat → FieldType := fun k => match k with
  | 0 => .object "ClauseCourt$Docket"
  | 1 => .object "ClauseCourt$Search"
  | 2 => .object "ClauseCourt$Checker"
  | 3 => .array .int
  | 4 => .int
  | 5 => .int
  | 6 => .int
  | 7 => .int
  | 8 => .int
  | 9 => .boolean
  | _ => .int
theorem n_C : ∀ a, a < 11 → ∀ b, b < 11 → a ≠ b → (T_C a).2.1 ≠ (T_C b).2.1 := by decide +kernel
theorem t_C_ok : ∀ k, k < 11 → parseFieldDescriptor (T_C k).2.2.1 = some (t_C k) := by decide +kernel
theorem u_C : ∀ w ∈ u_ws R_C T_C 11, w ∈ lw_G := fun w h => List.mem_filter.mpr ⟨(by decide +kernel : ∀ w ∈ u_ws R_C T_C 11, w ∈ lw_tbl) w h, (by decide +kernel : ∀ w ∈ u_ws R_C T_C 11, goodWord w = true) w h⟩
def R_M : String := "ClauseCourtModel"
def T_M : u_T := fun k => match k with
  | 0 => ("ClauseCourtModel", "thrown", "I", false)
  | 1 => ("ClauseCourtModel", "variables", "I", false)
  | 2 => ("ClauseCourtModel", "clauses", "I", false)
  | 3 => ("ClauseCourtModel", "told", "I", false)
  | 4 => ("ClauseCourtModel", "assumed", "I", false)
  | 5 => ("ClauseCourtModel", "model", "I", false)
  | 6 => ("ClauseCourtModel", "toldTrue", "I", false)
  | 7 => ("ClauseCourtModel", "toldFalse", "I", false)
  | 8 => ("ClauseCourtModel", "mustTrue", "I", false)
  | 9 => ("ClauseCourtModel", "mustFalse", "I", false)
  | 10 => ("ClauseCourtModel", "isOut", "[Z", true)
  | _ => ("ClauseCourtModel", "modelOf", "I", false)
def t_M : Nat → FieldType := fun k => match k with
  | 0 => .int
  | 1 => .int
  | 2 => .int
  | 3 => .int
  | 4 => .int
  | 5 => .int
  | 6 => .int
  | 7 => .int
  | 8 => .int
  | 9 => .int
  | 10 => .array .boolean
  | _ => .int
theorem n_M : ∀ a, a < 12 → ∀ b, b < 12 → a ≠ b → (T_M a).2.1 ≠ (T_M b).2.1 := by decide +kernel
theorem t_M_ok : ∀ k, k < 12 → parseFieldDescriptor (T_M k).2.2.1 = some (t_M k) := by decide +kernel
theorem u_M : ∀ w ∈ u_ws R_M T_M 12, w ∈ lw_G := fun w h => List.mem_filter.mpr ⟨(by decide +kernel : ∀ w ∈ u_ws R_M T_M 12, w ∈ lw_tbl) w h, (by decide +kernel : ∀ w ∈ u_ws R_M T_M 12, goodWord w = true) w h⟩
def R_L : String := "ClauseCourt$Literals"
def R_W : String := "ClauseCourtLaw"
abbrev cls_ : List vw_C := [(R_H, T_H, 1), (R_D, T_D, 7), (R_S, T_S, 4), (R_C, T_C, 11), (R_M, T_M, 12)]
abbrev c_C_init : ByteArray := prog_1_method_1_code
def y_C_init : MethodName := ⟨R_C, "<init>", "()V"⟩
abbrev c_C_variable : ByteArray := prog_1_method_2_code
def y_C_variable : MethodName := ⟨R_C, "variable", "()I"⟩
abbrev c_C_literal : ByteArray := prog_1_method_3_code
def y_C_literal : MethodName := ⟨R_C, "literal", "(I)V"⟩
abbrev c_C_close : ByteArray := prog_1_method_4_code
def y_C_close : MethodName := ⟨R_C, "close", "()I"⟩
abbrev c_C_assume : ByteArray := prog_1_method_5_code
def y_C_assume : MethodName := ⟨R_C, "assume", "(I)V"⟩
abbrev c_C_solve : ByteArray := prog_1_method_6_code
def y_C_solve : MethodName := ⟨R_C, "solve", "()Z"⟩
abbrev c_C_follows : ByteArray := prog_1_method_7_code
def y_C_follows : MethodName := ⟨R_C, "follows", "(I)Z"⟩
abbrev c_C_models : ByteArray := prog_1_method_8_code
def y_C_models : MethodName := ⟨R_C, "models", "()I"⟩
abbrev c_C_value : ByteArray := prog_1_method_9_code
def y_C_value : MethodName := ⟨R_C, "value", "(I)Z"⟩
abbrev c_C_count : ByteArray := prog_1_method_10_code
def y_C_count : MethodName := ⟨R_C, "count", "(I)I"⟩
abbrev c_C_needLiteral : ByteArray := prog_1_method_11_code
def y_C_needLiteral : MethodName := ⟨R_C, "needLiteral", "(I)V"⟩
abbrev c_C_openQuestion : ByteArray := prog_1_method_12_code
def y_C_openQuestion : MethodName := ⟨R_C, "openQuestion", "()V"⟩
abbrev c_C_nextModel : ByteArray := prog_1_method_13_code
def y_C_nextModel : MethodName := ⟨R_C, "nextModel", "()Z"⟩
abbrev c_C_endQuestion : ByteArray := prog_1_method_14_code
def y_C_endQuestion : MethodName := ⟨R_C, "endQuestion", "()V"⟩
abbrev c_M_init : ByteArray := prog_7_method_1_code
def y_M_init : MethodName := ⟨R_M, "<init>", "()V"⟩
abbrev c_M_thrown : ByteArray := prog_7_method_2_code
def y_M_thrown : MethodName := ⟨R_M, "thrown", "()I"⟩
abbrev c_M_no : ByteArray := prog_7_method_3_code
def y_M_no : MethodName := ⟨R_M, "no", "(I)I"⟩
abbrev c_M_isLiteral : ByteArray := prog_7_method_4_code
def y_M_isLiteral : MethodName := ⟨R_M, "isLiteral", "(I)Z"⟩
abbrev c_M_variable : ByteArray := prog_7_method_5_code
def y_M_variable : MethodName := ⟨R_M, "variable", "()I"⟩
abbrev c_M_literal : ByteArray := prog_7_method_6_code
def y_M_literal : MethodName := ⟨R_M, "literal", "(I)V"⟩
abbrev c_M_close : ByteArray := prog_7_method_7_code
def y_M_close : MethodName := ⟨R_M, "close", "()I"⟩
abbrev c_M_assume : ByteArray := prog_7_method_8_code
def y_M_assume : MethodName := ⟨R_M, "assume", "(I)V"⟩
abbrev c_M_values : ByteArray := prog_7_method_9_code
def y_M_values : MethodName := ⟨R_M, "values", "(I)I"⟩
abbrev c_M_isTrue : ByteArray := prog_7_method_10_code
def y_M_isTrue : MethodName := ⟨R_M, "isTrue", "(II)Z"⟩
abbrev c_M_isModel : ByteArray := prog_7_method_11_code
def y_M_isModel : MethodName := ⟨R_M, "isModel", "(I)Z"⟩
abbrev c_M_forget : ByteArray := prog_7_method_12_code
def y_M_forget : MethodName := ⟨R_M, "forget", "()V"⟩
abbrev c_M_solve : ByteArray := prog_7_method_13_code
def y_M_solve : MethodName := ⟨R_M, "solve", "()Z"⟩
abbrev c_M_follows : ByteArray := prog_7_method_14_code
def y_M_follows : MethodName := ⟨R_M, "follows", "(I)Z"⟩
abbrev c_M_models : ByteArray := prog_7_method_15_code
def y_M_models : MethodName := ⟨R_M, "models", "()I"⟩
abbrev c_M_value : ByteArray := prog_7_method_16_code
def y_M_value : MethodName := ⟨R_M, "value", "(I)Z"⟩
abbrev c_M_count : ByteArray := prog_7_method_17_code
def y_M_count : MethodName := ⟨R_M, "count", "(I)I"⟩
abbrev c_H_init : ByteArray := prog_2_method_1_code
def y_H_init : MethodName := ⟨R_H, "<init>", "()V"⟩
abbrev c_H_faults : ByteArray := prog_2_method_2_code
def y_H_faults : MethodName := ⟨R_H, "faults", "()I"⟩
abbrev c_H_checkModel : ByteArray := prog_2_method_3_code
def y_H_checkModel : MethodName := ⟨R_H, "checkModel", "(LClauseCourt$Docket;II)V"⟩
abbrev c_H_isModel : ByteArray := prog_2_method_4_code
def y_H_isModel : MethodName := ⟨R_H, "isModel", "(LClauseCourt$Docket;II)Z"⟩
abbrev c_H_checkProof : ByteArray := prog_2_method_5_code
def y_H_checkProof : MethodName := ⟨R_H, "checkProof", "(LClauseCourt$Docket;)V"⟩
abbrev c_H_checkDerivation : ByteArray := prog_2_method_6_code
def y_H_checkDerivation : MethodName := ⟨R_H, "checkDerivation", "(LClauseCourt$Docket;I)V"⟩
abbrev c_H_linkedClause : ByteArray := prog_2_method_7_code
def y_H_linkedClause : MethodName := ⟨R_H, "linkedClause", "(LClauseCourt$Docket;II)I"⟩
abbrev c_D_init : ByteArray := prog_3_method_1_code
def y_D_init : MethodName := ⟨R_D, "<init>", "()V"⟩
abbrev c_D_give : ByteArray := prog_3_method_2_code
def y_D_give : MethodName := ⟨R_D, "give", "(I)V"⟩
abbrev c_D_link : ByteArray := prog_3_method_3_code
def y_D_link : MethodName := ⟨R_D, "link", "(I)V"⟩
abbrev c_D_derive : ByteArray := prog_3_method_4_code
def y_D_derive : MethodName := ⟨R_D, "derive", "(I)V"⟩
abbrev c_D_append : ByteArray := prog_3_method_5_code
def y_D_append : MethodName := ⟨R_D, "append", "(III)V"⟩
abbrev c_D_keep : ByteArray := prog_3_method_6_code
def y_D_keep : MethodName := ⟨R_D, "keep", "(I)V"⟩
abbrev c_D_size : ByteArray := prog_3_method_7_code
def y_D_size : MethodName := ⟨R_D, "size", "()I"⟩
abbrev c_D_has : ByteArray := prog_3_method_8_code
def y_D_has : MethodName := ⟨R_D, "has", "(I)Z"⟩
abbrev c_D_clause : ByteArray := prog_3_method_9_code
def y_D_clause : MethodName := ⟨R_D, "clause", "(I)I"⟩
abbrev c_D_isDerived : ByteArray := prog_3_method_10_code
def y_D_isDerived : MethodName := ⟨R_D, "isDerived", "(I)Z"⟩
abbrev c_D_linksFrom : ByteArray := prog_3_method_11_code
def y_D_linksFrom : MethodName := ⟨R_D, "linksFrom", "(I)I"⟩
abbrev c_D_linksTo : ByteArray := prog_3_method_12_code
def y_D_linksTo : MethodName := ⟨R_D, "linksTo", "(I)I"⟩
abbrev c_D_linkAt : ByteArray := prog_3_method_13_code
def y_D_linkAt : MethodName := ⟨R_D, "linkAt", "(I)I"⟩
abbrev c_L_of : ByteArray := prog_4_method_2_code
def y_L_of : MethodName := ⟨R_L, "of", "(I)I"⟩
abbrev c_L_opposite : ByteArray := prog_4_method_3_code
def y_L_opposite : MethodName := ⟨R_L, "opposite", "(I)I"⟩
abbrev c_L_isSingle : ByteArray := prog_4_method_4_code
def y_L_isSingle : MethodName := ⟨R_L, "isSingle", "(I)Z"⟩
abbrev c_L_positivesUpTo : ByteArray := prog_4_method_5_code
def y_L_positivesUpTo : MethodName := ⟨R_L, "positivesUpTo", "(I)I"⟩
abbrev c_S_init : ByteArray := prog_5_method_1_code
def y_S_init : MethodName := ⟨R_S, "<init>", "()V"⟩
abbrev c_S_begin : ByteArray := prog_5_method_2_code
def y_S_begin : MethodName := ⟨R_S, "begin", "()V"⟩
abbrev c_S_held : ByteArray := prog_5_method_3_code
def y_S_held : MethodName := ⟨R_S, "held", "()I"⟩
abbrev c_S_findModel : ByteArray := prog_5_method_4_code
def y_S_findModel : MethodName := ⟨R_S, "findModel", "(LClauseCourt$Docket;I)Z"⟩
abbrev c_S_propagate : ByteArray := prog_5_method_5_code
def y_S_propagate : MethodName := ⟨R_S, "propagate", "(LClauseCourt$Docket;)I"⟩
abbrev c_S_sweep : ByteArray := prog_5_method_6_code
def y_S_sweep : MethodName := ⟨R_S, "sweep", "(LClauseCourt$Docket;)I"⟩
abbrev c_S_decide : ByteArray := prog_5_method_7_code
def y_S_decide : MethodName := ⟨R_S, "decide", "(I)V"⟩
abbrev c_S_hold : ByteArray := prog_5_method_8_code
def y_S_hold : MethodName := ⟨R_S, "hold", "(II)V"⟩
abbrev c_S_learn : ByteArray := prog_5_method_9_code
def y_S_learn : MethodName := ⟨R_S, "learn", "(LClauseCourt$Docket;I)I"⟩
abbrev c_S_latestDecision : ByteArray := prog_5_method_10_code
def y_S_latestDecision : MethodName := ⟨R_S, "latestDecision", "()I"⟩
abbrev c_S_deniedFrom : ByteArray := prog_5_method_11_code
def y_S_deniedFrom : MethodName := ⟨R_S, "deniedFrom", "(I)I"⟩
abbrev c_S_jumpTarget : ByteArray := prog_5_method_12_code
def y_S_jumpTarget : MethodName := ⟨R_S, "jumpTarget", "(II)I"⟩
abbrev c_S_cut : ByteArray := prog_5_method_13_code
def y_S_cut : MethodName := ⟨R_S, "cut", "(I)V"⟩
abbrev c_W_variable : ByteArray := method_3_code
def y_W_variable : MethodName := ⟨R_W, "variable", "(LClauseCourt;[J)I"⟩
abbrev c_W_literal : ByteArray := method_4_code
def y_W_literal : MethodName := ⟨R_W, "literal", "(LClauseCourt;I)I"⟩
abbrev c_W_close : ByteArray := method_5_code
def y_W_close : MethodName := ⟨R_W, "close", "(LClauseCourt;[J)I"⟩
abbrev c_W_assume : ByteArray := method_6_code
def y_W_assume : MethodName := ⟨R_W, "assume", "(LClauseCourt;I)I"⟩
abbrev c_W_follows : ByteArray := method_7_code
def y_W_follows : MethodName := ⟨R_W, "follows", "(LClauseCourt;I[J)I"⟩
abbrev c_W_value : ByteArray := method_8_code
def y_W_value : MethodName := ⟨R_W, "value", "(LClauseCourt;I[J)I"⟩
abbrev c_W_law : ByteArray := code
def y_W_law : MethodName := ⟨R_W, "law", "([I)Z"⟩
theorem h_C_init : Cond.code y_C_init c_C_init 1 none ∈ lw_G := z_in 42 (by decide +kernel)
theorem h_C_variable : Cond.code y_C_variable c_C_variable 1 (some .int) ∈ lw_G := z_in 313 (by decide +kernel)
theorem h_C_literal : Cond.code y_C_literal c_C_literal 2 none ∈ lw_G := z_in 389 (by decide +kernel)
theorem h_C_close : Cond.code y_C_close c_C_close 1 (some .int) ∈ lw_G := z_in 420 (by decide +kernel)
theorem h_C_assume : Cond.code y_C_assume c_C_assume 2 none ∈ lw_G := z_in 428 (by decide +kernel)
theorem h_C_solve : Cond.code y_C_solve c_C_solve 1 (some .boolean) ∈ lw_G := z_in 141 (by decide +kernel)
theorem h_C_follows : Cond.code y_C_follows c_C_follows 3 (some .boolean) ∈ lw_G := z_in 436 (by decide +kernel)
theorem h_C_models : Cond.code y_C_models c_C_models 2 (some .int) ∈ lw_G := z_in 296 (by decide +kernel)
theorem h_C_value : Cond.code y_C_value c_C_value 2 (some .boolean) ∈ lw_G := z_in 444 (by decide +kernel)
theorem h_C_count : Cond.code y_C_count c_C_count 2 (some .int) ∈ lw_G := z_in 301 (by decide +kernel)
theorem h_C_needLiteral : Cond.code y_C_needLiteral c_C_needLiteral 2 none ∈ lw_G := z_in 393 (by decide +kernel)
theorem h_C_openQuestion : Cond.code y_C_openQuestion c_C_openQuestion 2 none ∈ lw_G := z_in 145 (by decide +kernel)
theorem h_C_nextModel : Cond.code y_C_nextModel c_C_nextModel 2 (some .boolean) ∈ lw_G := z_in 161 (by decide +kernel)
theorem h_C_endQuestion : Cond.code y_C_endQuestion c_C_endQuestion 1 none ∈ lw_G := z_in 286 (by decide +kernel)
theorem h_M_init : Cond.code y_M_init c_M_init 1 none ∈ lw_G := z_in 466 (by decide +kernel)
theorem h_M_thrown : Cond.code y_M_thrown c_M_thrown 1 (some .int) ∈ lw_G := z_in 509 (by decide +kernel)
theorem h_M_no : Cond.code y_M_no c_M_no 2 (some .int) ∈ lw_G := z_in 517 (by decide +kernel)
theorem h_M_isLiteral : Cond.code y_M_isLiteral c_M_isLiteral 2 (some .boolean) ∈ lw_G := z_in 525 (by decide +kernel)
theorem h_M_variable : Cond.code y_M_variable c_M_variable 1 (some .int) ∈ lw_G := z_in 513 (by decide +kernel)
theorem h_M_literal : Cond.code y_M_literal c_M_literal 2 none ∈ lw_G := z_in 521 (by decide +kernel)
theorem h_M_close : Cond.code y_M_close c_M_close 2 (some .int) ∈ lw_G := z_in 529 (by decide +kernel)
theorem h_M_assume : Cond.code y_M_assume c_M_assume 2 none ∈ lw_G := z_in 533 (by decide +kernel)
theorem h_M_values : Cond.code y_M_values c_M_values 4 (some .int) ∈ lw_G := z_in 545 (by decide +kernel)
theorem h_M_isTrue : Cond.code y_M_isTrue c_M_isTrue 3 (some .boolean) ∈ lw_G := z_in 557 (by decide +kernel)
theorem h_M_isModel : Cond.code y_M_isModel c_M_isModel 3 (some .boolean) ∈ lw_G := z_in 541 (by decide +kernel)
theorem h_M_forget : Cond.code y_M_forget c_M_forget 1 none ∈ lw_G := z_in 549 (by decide +kernel)
theorem h_M_solve : Cond.code y_M_solve c_M_solve 2 (some .boolean) ∈ lw_G := z_in 537 (by decide +kernel)
theorem h_M_follows : Cond.code y_M_follows c_M_follows 4 (some .boolean) ∈ lw_G := z_in 553 (by decide +kernel)
theorem h_M_models : Cond.code y_M_models c_M_models 3 (some .int) ∈ lw_G := z_in 561 (by decide +kernel)
theorem h_M_value : Cond.code y_M_value c_M_value 2 (some .boolean) ∈ lw_G := z_in 565 (by decide +kernel)
theorem h_M_count : Cond.code y_M_count c_M_count 2 (some .int) ∈ lw_G := z_in 569 (by decide +kernel)
theorem h_H_init : Cond.code y_H_init c_H_init 1 none ∈ lw_G := z_in 98 (by decide +kernel)
theorem h_H_faults : Cond.code y_H_faults c_H_faults 1 (some .int) ∈ lw_G := z_in 305 (by decide +kernel)
theorem h_H_checkModel : Cond.code y_H_checkModel c_H_checkModel 4 none ∈ lw_G := z_in 245 (by decide +kernel)
theorem h_H_isModel : Cond.code y_H_isModel c_H_isModel 6 (some .boolean) ∈ lw_G := z_in 248 (by decide +kernel)
theorem h_H_checkProof : Cond.code y_H_checkProof c_H_checkProof 3 none ∈ lw_G := z_in 264 (by decide +kernel)
theorem h_H_checkDerivation : Cond.code y_H_checkDerivation c_H_checkDerivation 8 none ∈ lw_G := z_in 268 (by decide +kernel)
theorem h_H_linkedClause : Cond.code y_H_linkedClause c_H_linkedClause 5 (some .int) ∈ lw_G := z_in 273 (by decide +kernel)
theorem h_D_init : Cond.code y_D_init c_D_init 1 none ∈ lw_G := z_in 50 (by decide +kernel)
theorem h_D_give : Cond.code y_D_give c_D_give 2 none ∈ lw_G := z_in 149 (by decide +kernel)
theorem h_D_link : Cond.code y_D_link c_D_link 2 none ∈ lw_G := z_in 222 (by decide +kernel)
theorem h_D_derive : Cond.code y_D_derive c_D_derive 2 none ∈ lw_G := z_in 226 (by decide +kernel)
theorem h_D_append : Cond.code y_D_append c_D_append 4 none ∈ lw_G := z_in 153 (by decide +kernel)
theorem h_D_keep : Cond.code y_D_keep c_D_keep 2 none ∈ lw_G := z_in 290 (by decide +kernel)
theorem h_D_size : Cond.code y_D_size c_D_size 1 (some .int) ∈ lw_G := z_in 178 (by decide +kernel)
theorem h_D_has : Cond.code y_D_has c_D_has 2 (some .boolean) ∈ lw_G := z_in 186 (by decide +kernel)
theorem h_D_clause : Cond.code y_D_clause c_D_clause 2 (some .int) ∈ lw_G := z_in 182 (by decide +kernel)
theorem h_D_isDerived : Cond.code y_D_isDerived c_D_isDerived 2 (some .boolean) ∈ lw_G := z_in 255 (by decide +kernel)
theorem h_D_linksFrom : Cond.code y_D_linksFrom c_D_linksFrom 2 (some .int) ∈ lw_G := z_in 259 (by decide +kernel)
theorem h_D_linksTo : Cond.code y_D_linksTo c_D_linksTo 2 (some .int) ∈ lw_G := z_in 277 (by decide +kernel)
theorem h_D_linkAt : Cond.code y_D_linkAt c_D_linkAt 2 (some .int) ∈ lw_G := z_in 281 (by decide +kernel)
theorem h_L_of : Cond.code y_L_of c_L_of 1 (some .int) ∈ lw_G := z_in 413 (by decide +kernel)
theorem h_L_opposite : Cond.code y_L_opposite c_L_opposite 3 (some .int) ∈ lw_G := z_in 189 (by decide +kernel)
theorem h_L_isSingle : Cond.code y_L_isSingle c_L_isSingle 1 (some .boolean) ∈ lw_G := z_in 192 (by decide +kernel)
theorem h_L_positivesUpTo : Cond.code y_L_positivesUpTo c_L_positivesUpTo 1 (some .int) ∈ lw_G := z_in 203 (by decide +kernel)
theorem h_S_init : Cond.code y_S_init c_S_init 1 none ∈ lw_G := z_in 79 (by decide +kernel)
theorem h_S_begin : Cond.code y_S_begin c_S_begin 1 none ∈ lw_G := z_in 157 (by decide +kernel)
theorem h_S_held : Cond.code y_S_held c_S_held 1 (some .int) ∈ lw_G := z_in 241 (by decide +kernel)
theorem h_S_findModel : Cond.code y_S_findModel c_S_findModel 5 (some .boolean) ∈ lw_G := z_in 165 (by decide +kernel)
theorem h_S_propagate : Cond.code y_S_propagate c_S_propagate 6 (some .int) ∈ lw_G := z_in 170 (by decide +kernel)
theorem h_S_sweep : Cond.code y_S_sweep c_S_sweep 6 (some .int) ∈ lw_G := z_in 174 (by decide +kernel)
theorem h_S_decide : Cond.code y_S_decide c_S_decide 3 none ∈ lw_G := z_in 200 (by decide +kernel)
theorem h_S_hold : Cond.code y_S_hold c_S_hold 3 none ∈ lw_G := z_in 196 (by decide +kernel)
theorem h_S_learn : Cond.code y_S_learn c_S_learn 8 (some .int) ∈ lw_G := z_in 207 (by decide +kernel)
theorem h_S_latestDecision : Cond.code y_S_latestDecision c_S_latestDecision 2 (some .int) ∈ lw_G := z_in 211 (by decide +kernel)
theorem h_S_deniedFrom : Cond.code y_S_deniedFrom c_S_deniedFrom 4 (some .int) ∈ lw_G := z_in 215 (by decide +kernel)
theorem h_S_jumpTarget : Cond.code y_S_jumpTarget c_S_jumpTarget 5 (some .int) ∈ lw_G := z_in 230 (by decide +kernel)
theorem h_S_cut : Cond.code y_S_cut c_S_cut 3 none ∈ lw_G := z_in 234 (by decide +kernel)
end
section
/-! Part 03: links of fields and calls, by program -/
-- link ClauseCourt 1 ('java/lang/Object', '<init>', '()V') at 43
theorem l_C_9 : Cond.methodLink R_C 9 y_D_init ∈ lw_G := z_in 48 (by decide +kernel)
theorem f_C_10 : Cond.fieldLink R_C 10 "ClauseCourt" "docket" "LClauseCourt$Docket;" ∈ lw_G := z_in 104 (by decide +kernel)
theorem l_C_18 : Cond.methodLink R_C 18 y_S_init ∈ lw_G := z_in 77 (by decide +kernel)
theorem f_C_19 : Cond.fieldLink R_C 19 "ClauseCourt" "search" "LClauseCourt$Search;" ∈ lw_G := z_in 105 (by decide +kernel)
theorem l_C_25 : Cond.methodLink R_C 25 y_H_init ∈ lw_G := z_in 96 (by decide +kernel)
theorem f_C_26 : Cond.fieldLink R_C 26 "ClauseCourt" "checker" "LClauseCourt$Checker;" ∈ lw_G := z_in 106 (by decide +kernel)
theorem f_C_30 : Cond.fieldLink R_C 30 "ClauseCourt" "assumptions" "[I" ∈ lw_G := z_in 107 (by decide +kernel)
theorem f_C_34 : Cond.fieldLink R_C 34 "ClauseCourt" "variables" "I" ∈ lw_G := z_in 109 (by decide +kernel)
-- link ClauseCourt 42 ('java/lang/IllegalStateException', '<init>', '(Ljava/lang/String;)V') at 356
theorem l_C_45 : Cond.methodLink R_C 45 y_C_needLiteral ∈ lw_G := z_in 390 (by decide +kernel)
theorem v_C_45 : GoodIn lw_G (wsV R_C 45 R_C y_C_needLiteral (wz y_C_needLiteral c_C_needLiteral 2 none)) := z_V l_C_45 (z_in 392 (by decide +kernel)) (z_in 17 (by decide +kernel)) (z_in 25 (by decide +kernel)) h_C_needLiteral
theorem f_C_49 : Cond.fieldLink R_C 49 "ClauseCourt" "toldLength" "I" ∈ lw_G := z_in 112 (by decide +kernel)
theorem f_C_54 : Cond.fieldLink R_C 54 "ClauseCourt" "told" "I" ∈ lw_G := z_in 111 (by decide +kernel)
theorem l_C_57 : Cond.methodLink R_C 57 y_L_of ∈ lw_G := z_in 411 (by decide +kernel)
theorem v_C_57 : GoodIn lw_G (va_wsS R_C 57 y_L_of (wz y_L_of c_L_of 1 (some .int))) := z_S l_C_57 (z_in 412 (by decide +kernel)) (z_in 35 (by decide +kernel)) h_L_of
theorem f_C_63 : Cond.fieldLink R_C 63 "ClauseCourt" "closed" "I" ∈ lw_G := z_in 110 (by decide +kernel)
theorem l_C_68 : Cond.methodLink R_C 68 y_D_give ∈ lw_G := z_in 146 (by decide +kernel)
theorem v_C_68 : GoodIn lw_G (wsV R_C 68 R_D y_D_give (wz y_D_give c_D_give 2 none)) := z_V l_C_68 (z_in 147 (by decide +kernel)) (z_in 148 (by decide +kernel)) (z_in 26 (by decide +kernel)) h_D_give
theorem f_C_71 : Cond.fieldLink R_C 71 "ClauseCourt" "assumed" "I" ∈ lw_G := z_in 108 (by decide +kernel)
theorem l_C_76 : Cond.methodLink R_C 76 y_C_openQuestion ∈ lw_G := z_in 142 (by decide +kernel)
theorem v_C_76 : GoodIn lw_G (wsV R_C 76 R_C y_C_openQuestion (wz y_C_openQuestion c_C_openQuestion 2 none)) := z_V l_C_76 (z_in 144 (by decide +kernel)) (z_in 0 (by decide +kernel)) (z_in 25 (by decide +kernel)) h_C_openQuestion
theorem l_C_79 : Cond.methodLink R_C 79 y_C_nextModel ∈ lw_G := z_in 158 (by decide +kernel)
theorem v_C_79 : GoodIn lw_G (wsV R_C 79 R_C y_C_nextModel (wz y_C_nextModel c_C_nextModel 2 (some .boolean))) := z_V l_C_79 (z_in 160 (by decide +kernel)) (z_in 2 (by decide +kernel)) (z_in 25 (by decide +kernel)) h_C_nextModel
theorem f_C_83 : Cond.fieldLink R_C 83 "ClauseCourt" "hasModel" "Z" ∈ lw_G := z_in 113 (by decide +kernel)
theorem l_C_87 : Cond.methodLink R_C 87 y_S_held ∈ lw_G := z_in 238 (by decide +kernel)
theorem v_C_87 : GoodIn lw_G (wsV R_C 87 R_S y_S_held (wz y_S_held c_S_held 1 (some .int))) := z_V l_C_87 (z_in 239 (by decide +kernel)) (z_in 240 (by decide +kernel)) (z_in 27 (by decide +kernel)) h_S_held
theorem f_C_91 : Cond.fieldLink R_C 91 "ClauseCourt" "model" "I" ∈ lw_G := z_in 114 (by decide +kernel)
theorem l_C_94 : Cond.methodLink R_C 94 y_C_endQuestion ∈ lw_G := z_in 283 (by decide +kernel)
theorem v_C_94 : GoodIn lw_G (wsV R_C 94 R_C y_C_endQuestion (wz y_C_endQuestion c_C_endQuestion 1 none)) := z_V l_C_94 (z_in 285 (by decide +kernel)) (z_in 15 (by decide +kernel)) (z_in 25 (by decide +kernel)) h_C_endQuestion
theorem l_C_97 : Cond.methodLink R_C 97 y_L_opposite ∈ lw_G := z_in 297 (by decide +kernel)
theorem v_C_97 : GoodIn lw_G (va_wsS R_C 97 y_L_opposite (wz y_L_opposite c_L_opposite 3 (some .int))) := z_S l_C_97 (z_in 188 (by decide +kernel)) (z_in 35 (by decide +kernel)) h_L_opposite
-- link ClauseCourt 104 ('java/lang/IllegalArgumentException', '<init>', '(Ljava/lang/String;)V') at 404
-- link ClauseCourt 109 ('java/util/NoSuchElementException', '<init>', '(Ljava/lang/String;)V') at 456
theorem l_C_110 : Cond.methodLink R_C 110 y_H_faults ∈ lw_G := z_in 302 (by decide +kernel)
theorem v_C_110 : GoodIn lw_G (wsV R_C 110 R_H y_H_faults (wz y_H_faults c_H_faults 1 (some .int))) := z_V l_C_110 (z_in 303 (by decide +kernel)) (z_in 304 (by decide +kernel)) (z_in 28 (by decide +kernel)) h_H_faults
theorem l_C_115 : Cond.methodLink R_C 115 y_S_begin ∈ lw_G := z_in 154 (by decide +kernel)
theorem v_C_115 : GoodIn lw_G (wsV R_C 115 R_S y_S_begin (wz y_S_begin c_S_begin 1 none)) := z_V l_C_115 (z_in 155 (by decide +kernel)) (z_in 156 (by decide +kernel)) (z_in 27 (by decide +kernel)) h_S_begin
theorem l_C_118 : Cond.methodLink R_C 118 y_S_findModel ∈ lw_G := z_in 162 (by decide +kernel)
theorem v_C_118 : GoodIn lw_G (wsV R_C 118 R_S y_S_findModel (wz y_S_findModel c_S_findModel 5 (some .boolean))) := z_V l_C_118 (z_in 163 (by decide +kernel)) (z_in 164 (by decide +kernel)) (z_in 27 (by decide +kernel)) h_S_findModel
theorem l_C_122 : Cond.methodLink R_C 122 y_H_checkModel ∈ lw_G := z_in 242 (by decide +kernel)
theorem v_C_122 : GoodIn lw_G (wsV R_C 122 R_H y_H_checkModel (wz y_H_checkModel c_H_checkModel 4 none)) := z_V l_C_122 (z_in 243 (by decide +kernel)) (z_in 244 (by decide +kernel)) (z_in 28 (by decide +kernel)) h_H_checkModel
theorem l_C_126 : Cond.methodLink R_C 126 y_H_checkProof ∈ lw_G := z_in 261 (by decide +kernel)
theorem v_C_126 : GoodIn lw_G (wsV R_C 126 R_H y_H_checkProof (wz y_H_checkProof c_H_checkProof 3 none)) := z_V l_C_126 (z_in 262 (by decide +kernel)) (z_in 263 (by decide +kernel)) (z_in 28 (by decide +kernel)) h_H_checkProof
theorem l_C_130 : Cond.methodLink R_C 130 y_D_keep ∈ lw_G := z_in 287 (by decide +kernel)
theorem v_C_130 : GoodIn lw_G (wsV R_C 130 R_D y_D_keep (wz y_D_keep c_D_keep 2 none)) := z_V l_C_130 (z_in 288 (by decide +kernel)) (z_in 289 (by decide +kernel)) (z_in 26 (by decide +kernel)) h_D_keep
-- link ClauseCourtModel 1 ('java/lang/Object', '<init>', '()V') at 467
theorem f_M_7 : Cond.fieldLink R_M 7 "ClauseCourtModel" "model" "I" ∈ lw_G := z_in 473 (by decide +kernel)
theorem f_M_13 : Cond.fieldLink R_M 13 "ClauseCourtModel" "isOut" "[Z" ∈ lw_G := z_in 478 (by decide +kernel)
theorem f_M_17 : Cond.fieldLink R_M 17 "ClauseCourtModel" "thrown" "I" ∈ lw_G := z_in 468 (by decide +kernel)
theorem f_M_20 : Cond.fieldLink R_M 20 "ClauseCourtModel" "variables" "I" ∈ lw_G := z_in 469 (by decide +kernel)
theorem l_M_23 : Cond.methodLink R_M 23 y_M_no ∈ lw_G := z_in 514 (by decide +kernel)
theorem v_M_23 : GoodIn lw_G (wsV R_M 23 R_M y_M_no (wz y_M_no c_M_no 2 (some .int))) := z_V l_M_23 (z_in 516 (by decide +kernel)) (z_in 18 (by decide +kernel)) (z_in 29 (by decide +kernel)) h_M_no
theorem l_M_27 : Cond.methodLink R_M 27 y_M_isLiteral ∈ lw_G := z_in 522 (by decide +kernel)
theorem v_M_27 : GoodIn lw_G (wsV R_M 27 R_M y_M_isLiteral (wz y_M_isLiteral c_M_isLiteral 2 (some .boolean))) := z_V l_M_27 (z_in 524 (by decide +kernel)) (z_in 19 (by decide +kernel)) (z_in 29 (by decide +kernel)) h_M_isLiteral
theorem f_M_31 : Cond.fieldLink R_M 31 "ClauseCourtModel" "told" "I" ∈ lw_G := z_in 471 (by decide +kernel)
theorem f_M_34 : Cond.fieldLink R_M 34 "ClauseCourtModel" "toldTrue" "I" ∈ lw_G := z_in 474 (by decide +kernel)
theorem f_M_37 : Cond.fieldLink R_M 37 "ClauseCourtModel" "toldFalse" "I" ∈ lw_G := z_in 475 (by decide +kernel)
theorem f_M_40 : Cond.fieldLink R_M 40 "ClauseCourtModel" "clauses" "I" ∈ lw_G := z_in 470 (by decide +kernel)
theorem f_M_43 : Cond.fieldLink R_M 43 "ClauseCourtModel" "assumed" "I" ∈ lw_G := z_in 472 (by decide +kernel)
theorem f_M_46 : Cond.fieldLink R_M 46 "ClauseCourtModel" "mustTrue" "I" ∈ lw_G := z_in 476 (by decide +kernel)
theorem f_M_49 : Cond.fieldLink R_M 49 "ClauseCourtModel" "mustFalse" "I" ∈ lw_G := z_in 477 (by decide +kernel)
theorem l_M_52 : Cond.methodLink R_M 52 y_M_values ∈ lw_G := z_in 542 (by decide +kernel)
theorem v_M_52 : GoodIn lw_G (wsV R_M 52 R_M y_M_values (wz y_M_values c_M_values 4 (some .int))) := z_V l_M_52 (z_in 544 (by decide +kernel)) (z_in 21 (by decide +kernel)) (z_in 29 (by decide +kernel)) h_M_values
theorem f_M_55 : Cond.fieldLink R_M 55 "ClauseCourtModel" "modelOf" "I" ∈ lw_G := z_in 479 (by decide +kernel)
theorem l_M_58 : Cond.methodLink R_M 58 y_M_isModel ∈ lw_G := z_in 538 (by decide +kernel)
theorem v_M_58 : GoodIn lw_G (wsV R_M 58 R_M y_M_isModel (wz y_M_isModel c_M_isModel 3 (some .boolean))) := z_V l_M_58 (z_in 540 (by decide +kernel)) (z_in 20 (by decide +kernel)) (z_in 29 (by decide +kernel)) h_M_isModel
theorem l_M_61 : Cond.methodLink R_M 61 y_M_forget ∈ lw_G := z_in 546 (by decide +kernel)
theorem v_M_61 : GoodIn lw_G (wsV R_M 61 R_M y_M_forget (wz y_M_forget c_M_forget 1 none)) := z_V l_M_61 (z_in 548 (by decide +kernel)) (z_in 22 (by decide +kernel)) (z_in 29 (by decide +kernel)) h_M_forget
theorem l_M_64 : Cond.methodLink R_M 64 y_M_isTrue ∈ lw_G := z_in 554 (by decide +kernel)
theorem v_M_64 : GoodIn lw_G (wsV R_M 64 R_M y_M_isTrue (wz y_M_isTrue c_M_isTrue 3 (some .boolean))) := z_V l_M_64 (z_in 556 (by decide +kernel)) (z_in 23 (by decide +kernel)) (z_in 29 (by decide +kernel)) h_M_isTrue
-- link ClauseCourt$Checker 3 ('java/lang/Object', '<init>', '()V') at 99
theorem f_H_9 : Cond.fieldLink R_H 9 "ClauseCourt$Checker" "faults" "I" ∈ lw_G := z_in 100 (by decide +kernel)
theorem l_H_15 : Cond.methodLink R_H 15 y_H_isModel ∈ lw_G := z_in 246 (by decide +kernel)
theorem v_H_15 : GoodIn lw_G (va_wsS R_H 15 y_H_isModel (wz y_H_isModel c_H_isModel 6 (some .boolean))) := z_S l_H_15 (z_in 247 (by decide +kernel)) (z_in 28 (by decide +kernel)) h_H_isModel
theorem l_H_19 : Cond.methodLink R_H 19 y_L_opposite ∈ lw_G := z_in 249 (by decide +kernel)
theorem v_H_19 : GoodIn lw_G (va_wsS R_H 19 y_L_opposite (wz y_L_opposite c_L_opposite 3 (some .int))) := z_S l_H_19 (z_in 188 (by decide +kernel)) (z_in 35 (by decide +kernel)) h_L_opposite
theorem l_H_25 : Cond.methodLink R_H 25 y_L_positivesUpTo ∈ lw_G := z_in 250 (by decide +kernel)
theorem v_H_25 : GoodIn lw_G (va_wsS R_H 25 y_L_positivesUpTo (wz y_L_positivesUpTo c_L_positivesUpTo 1 (some .int))) := z_S l_H_25 (z_in 202 (by decide +kernel)) (z_in 35 (by decide +kernel)) h_L_positivesUpTo
theorem l_H_28 : Cond.methodLink R_H 28 y_D_size ∈ lw_G := z_in 251 (by decide +kernel)
theorem v_H_28 : GoodIn lw_G (wsV R_H 28 R_D y_D_size (wz y_D_size c_D_size 1 (some .int))) := z_V l_H_28 (z_in 176 (by decide +kernel)) (z_in 177 (by decide +kernel)) (z_in 26 (by decide +kernel)) h_D_size
theorem l_H_34 : Cond.methodLink R_H 34 y_D_isDerived ∈ lw_G := z_in 252 (by decide +kernel)
theorem v_H_34 : GoodIn lw_G (wsV R_H 34 R_D y_D_isDerived (wz y_D_isDerived c_D_isDerived 2 (some .boolean))) := z_V l_H_34 (z_in 253 (by decide +kernel)) (z_in 254 (by decide +kernel)) (z_in 26 (by decide +kernel)) h_D_isDerived
theorem l_H_38 : Cond.methodLink R_H 38 y_D_clause ∈ lw_G := z_in 260 (by decide +kernel)
theorem v_H_38 : GoodIn lw_G (wsV R_H 38 R_D y_D_clause (wz y_D_clause c_D_clause 2 (some .int))) := z_V l_H_38 (z_in 180 (by decide +kernel)) (z_in 181 (by decide +kernel)) (z_in 26 (by decide +kernel)) h_D_clause
theorem l_H_41 : Cond.methodLink R_H 41 y_H_checkDerivation ∈ lw_G := z_in 265 (by decide +kernel)
theorem v_H_41 : GoodIn lw_G (wsV R_H 41 R_H y_H_checkDerivation (wz y_H_checkDerivation c_H_checkDerivation 8 none)) := z_V l_H_41 (z_in 267 (by decide +kernel)) (z_in 13 (by decide +kernel)) (z_in 28 (by decide +kernel)) h_H_checkDerivation
theorem l_H_45 : Cond.methodLink R_H 45 y_D_linksFrom ∈ lw_G := z_in 269 (by decide +kernel)
theorem v_H_45 : GoodIn lw_G (wsV R_H 45 R_D y_D_linksFrom (wz y_D_linksFrom c_D_linksFrom 2 (some .int))) := z_V l_H_45 (z_in 257 (by decide +kernel)) (z_in 258 (by decide +kernel)) (z_in 26 (by decide +kernel)) h_D_linksFrom
theorem l_H_48 : Cond.methodLink R_H 48 y_H_linkedClause ∈ lw_G := z_in 270 (by decide +kernel)
theorem v_H_48 : GoodIn lw_G (wsV R_H 48 R_H y_H_linkedClause (wz y_H_linkedClause c_H_linkedClause 5 (some .int))) := z_V l_H_48 (z_in 272 (by decide +kernel)) (z_in 14 (by decide +kernel)) (z_in 28 (by decide +kernel)) h_H_linkedClause
theorem l_H_52 : Cond.methodLink R_H 52 y_D_linksTo ∈ lw_G := z_in 274 (by decide +kernel)
theorem v_H_52 : GoodIn lw_G (wsV R_H 52 R_D y_D_linksTo (wz y_D_linksTo c_D_linksTo 2 (some .int))) := z_V l_H_52 (z_in 275 (by decide +kernel)) (z_in 276 (by decide +kernel)) (z_in 26 (by decide +kernel)) h_D_linksTo
theorem l_H_55 : Cond.methodLink R_H 55 y_L_isSingle ∈ lw_G := z_in 282 (by decide +kernel)
theorem v_H_55 : GoodIn lw_G (va_wsS R_H 55 y_L_isSingle (wz y_L_isSingle c_L_isSingle 1 (some .boolean))) := z_S l_H_55 (z_in 191 (by decide +kernel)) (z_in 35 (by decide +kernel)) h_L_isSingle
theorem l_H_58 : Cond.methodLink R_H 58 y_D_linkAt ∈ lw_G := z_in 278 (by decide +kernel)
theorem v_H_58 : GoodIn lw_G (wsV R_H 58 R_D y_D_linkAt (wz y_D_linkAt c_D_linkAt 2 (some .int))) := z_V l_H_58 (z_in 279 (by decide +kernel)) (z_in 280 (by decide +kernel)) (z_in 26 (by decide +kernel)) h_D_linkAt
-- link ClauseCourt$Docket 5 ('java/lang/Object', '<init>', '()V') at 51
theorem f_D_11 : Cond.fieldLink R_D 11 "ClauseCourt$Docket" "clauses" "[I" ∈ lw_G := z_in 52 (by decide +kernel)
theorem f_D_15 : Cond.fieldLink R_D 15 "ClauseCourt$Docket" "linksFrom" "[I" ∈ lw_G := z_in 53 (by decide +kernel)
theorem f_D_18 : Cond.fieldLink R_D 18 "ClauseCourt$Docket" "linksTo" "[I" ∈ lw_G := z_in 54 (by decide +kernel)
theorem f_D_21 : Cond.fieldLink R_D 21 "ClauseCourt$Docket" "links" "[I" ∈ lw_G := z_in 55 (by decide +kernel)
theorem l_D_24 : Cond.methodLink R_D 24 y_D_append ∈ lw_G := z_in 150 (by decide +kernel)
theorem v_D_24 : GoodIn lw_G (wsV R_D 24 R_D y_D_append (wz y_D_append c_D_append 4 none)) := z_V l_D_24 (z_in 152 (by decide +kernel)) (z_in 1 (by decide +kernel)) (z_in 26 (by decide +kernel)) h_D_append
theorem f_D_28 : Cond.fieldLink R_D 28 "ClauseCourt$Docket" "linked" "I" ∈ lw_G := z_in 57 (by decide +kernel)
theorem f_D_32 : Cond.fieldLink R_D 32 "ClauseCourt$Docket" "openFrom" "I" ∈ lw_G := z_in 58 (by decide +kernel)
theorem f_D_35 : Cond.fieldLink R_D 35 "ClauseCourt$Docket" "size" "I" ∈ lw_G := z_in 56 (by decide +kernel)
-- link ClauseCourt$Docket 38 ('java/lang/Math', 'max', '(II)I') at 291
-- link ClauseCourt$Docket 44 ('java/lang/Math', 'min', '(II)I') at 292
theorem l_D_47 : Cond.methodLink R_D 47 y_D_has ∈ lw_G := z_in 183 (by decide +kernel)
theorem v_D_47 : GoodIn lw_G (wsV R_D 47 R_D y_D_has (wz y_D_has c_D_has 2 (some .boolean))) := z_V l_D_47 (z_in 185 (by decide +kernel)) (z_in 5 (by decide +kernel)) (z_in 26 (by decide +kernel)) h_D_has
theorem l_D_51 : Cond.methodLink R_D 51 y_D_linksFrom ∈ lw_G := z_in 256 (by decide +kernel)
theorem v_D_51 : GoodIn lw_G (wsV R_D 51 R_D y_D_linksFrom (wz y_D_linksFrom c_D_linksFrom 2 (some .int))) := z_V l_D_51 (z_in 257 (by decide +kernel)) (z_in 258 (by decide +kernel)) (z_in 26 (by decide +kernel)) h_D_linksFrom
-- link ClauseCourt$Search 3 ('java/lang/Object', '<init>', '()V') at 80
theorem f_S_9 : Cond.fieldLink R_S 9 "ClauseCourt$Search" "trail" "[I" ∈ lw_G := z_in 81 (by decide +kernel)
theorem f_S_15 : Cond.fieldLink R_S 15 "ClauseCourt$Search" "reasons" "[I" ∈ lw_G := z_in 82 (by decide +kernel)
theorem f_S_18 : Cond.fieldLink R_S 18 "ClauseCourt$Search" "length" "I" ∈ lw_G := z_in 83 (by decide +kernel)
theorem f_S_22 : Cond.fieldLink R_S 22 "ClauseCourt$Search" "held" "I" ∈ lw_G := z_in 84 (by decide +kernel)
theorem l_S_26 : Cond.methodLink R_S 26 y_S_propagate ∈ lw_G := z_in 167 (by decide +kernel)
theorem v_S_26 : GoodIn lw_G (wsV R_S 26 R_S y_S_propagate (wz y_S_propagate c_S_propagate 6 (some .int))) := z_V l_S_26 (z_in 169 (by decide +kernel)) (z_in 3 (by decide +kernel)) (z_in 27 (by decide +kernel)) h_S_propagate
theorem l_S_30 : Cond.methodLink R_S 30 y_S_decide ∈ lw_G := z_in 197 (by decide +kernel)
theorem v_S_30 : GoodIn lw_G (wsV R_S 30 R_S y_S_decide (wz y_S_decide c_S_decide 3 none)) := z_V l_S_30 (z_in 199 (by decide +kernel)) (z_in 7 (by decide +kernel)) (z_in 27 (by decide +kernel)) h_S_decide
theorem l_S_34 : Cond.methodLink R_S 34 y_S_learn ∈ lw_G := z_in 204 (by decide +kernel)
theorem v_S_34 : GoodIn lw_G (wsV R_S 34 R_S y_S_learn (wz y_S_learn c_S_learn 8 (some .int))) := z_V l_S_34 (z_in 206 (by decide +kernel)) (z_in 8 (by decide +kernel)) (z_in 27 (by decide +kernel)) h_S_learn
theorem l_S_38 : Cond.methodLink R_S 38 y_S_sweep ∈ lw_G := z_in 171 (by decide +kernel)
theorem v_S_38 : GoodIn lw_G (wsV R_S 38 R_S y_S_sweep (wz y_S_sweep c_S_sweep 6 (some .int))) := z_V l_S_38 (z_in 173 (by decide +kernel)) (z_in 4 (by decide +kernel)) (z_in 27 (by decide +kernel)) h_S_sweep
theorem l_S_41 : Cond.methodLink R_S 41 y_D_size ∈ lw_G := z_in 175 (by decide +kernel)
theorem v_S_41 : GoodIn lw_G (wsV R_S 41 R_D y_D_size (wz y_D_size c_D_size 1 (some .int))) := z_V l_S_41 (z_in 176 (by decide +kernel)) (z_in 177 (by decide +kernel)) (z_in 26 (by decide +kernel)) h_D_size
theorem l_S_47 : Cond.methodLink R_S 47 y_D_clause ∈ lw_G := z_in 179 (by decide +kernel)
theorem v_S_47 : GoodIn lw_G (wsV R_S 47 R_D y_D_clause (wz y_D_clause c_D_clause 2 (some .int))) := z_V l_S_47 (z_in 180 (by decide +kernel)) (z_in 181 (by decide +kernel)) (z_in 26 (by decide +kernel)) h_D_clause
theorem l_S_51 : Cond.methodLink R_S 51 y_L_opposite ∈ lw_G := z_in 187 (by decide +kernel)
theorem v_S_51 : GoodIn lw_G (va_wsS R_S 51 y_L_opposite (wz y_L_opposite c_L_opposite 3 (some .int))) := z_S l_S_51 (z_in 188 (by decide +kernel)) (z_in 35 (by decide +kernel)) h_L_opposite
theorem l_S_56 : Cond.methodLink R_S 56 y_L_isSingle ∈ lw_G := z_in 190 (by decide +kernel)
theorem v_S_56 : GoodIn lw_G (va_wsS R_S 56 y_L_isSingle (wz y_L_isSingle c_L_isSingle 1 (some .boolean))) := z_S l_S_56 (z_in 191 (by decide +kernel)) (z_in 35 (by decide +kernel)) h_L_isSingle
theorem l_S_60 : Cond.methodLink R_S 60 y_S_hold ∈ lw_G := z_in 193 (by decide +kernel)
theorem v_S_60 : GoodIn lw_G (wsV R_S 60 R_S y_S_hold (wz y_S_hold c_S_hold 3 none)) := z_V l_S_60 (z_in 195 (by decide +kernel)) (z_in 6 (by decide +kernel)) (z_in 27 (by decide +kernel)) h_S_hold
theorem l_S_64 : Cond.methodLink R_S 64 y_L_positivesUpTo ∈ lw_G := z_in 201 (by decide +kernel)
theorem v_S_64 : GoodIn lw_G (va_wsS R_S 64 y_L_positivesUpTo (wz y_L_positivesUpTo c_L_positivesUpTo 1 (some .int))) := z_S l_S_64 (z_in 202 (by decide +kernel)) (z_in 35 (by decide +kernel)) h_L_positivesUpTo
theorem l_S_67 : Cond.methodLink R_S 67 y_S_latestDecision ∈ lw_G := z_in 208 (by decide +kernel)
theorem v_S_67 : GoodIn lw_G (wsV R_S 67 R_S y_S_latestDecision (wz y_S_latestDecision c_S_latestDecision 2 (some .int))) := z_V l_S_67 (z_in 210 (by decide +kernel)) (z_in 9 (by decide +kernel)) (z_in 27 (by decide +kernel)) h_S_latestDecision
theorem l_S_70 : Cond.methodLink R_S 70 y_S_deniedFrom ∈ lw_G := z_in 212 (by decide +kernel)
theorem v_S_70 : GoodIn lw_G (wsV R_S 70 R_S y_S_deniedFrom (wz y_S_deniedFrom c_S_deniedFrom 4 (some .int))) := z_V l_S_70 (z_in 214 (by decide +kernel)) (z_in 10 (by decide +kernel)) (z_in 27 (by decide +kernel)) h_S_deniedFrom
theorem l_S_73 : Cond.methodLink R_S 73 y_D_link ∈ lw_G := z_in 219 (by decide +kernel)
theorem v_S_73 : GoodIn lw_G (wsV R_S 73 R_D y_D_link (wz y_D_link c_D_link 2 none)) := z_V l_S_73 (z_in 220 (by decide +kernel)) (z_in 221 (by decide +kernel)) (z_in 26 (by decide +kernel)) h_D_link
theorem l_S_76 : Cond.methodLink R_S 76 y_D_derive ∈ lw_G := z_in 223 (by decide +kernel)
theorem v_S_76 : GoodIn lw_G (wsV R_S 76 R_D y_D_derive (wz y_D_derive c_D_derive 2 none)) := z_V l_S_76 (z_in 224 (by decide +kernel)) (z_in 225 (by decide +kernel)) (z_in 26 (by decide +kernel)) h_D_derive
theorem l_S_79 : Cond.methodLink R_S 79 y_S_jumpTarget ∈ lw_G := z_in 227 (by decide +kernel)
theorem v_S_79 : GoodIn lw_G (wsV R_S 79 R_S y_S_jumpTarget (wz y_S_jumpTarget c_S_jumpTarget 5 (some .int))) := z_V l_S_79 (z_in 229 (by decide +kernel)) (z_in 11 (by decide +kernel)) (z_in 27 (by decide +kernel)) h_S_jumpTarget
theorem l_S_83 : Cond.methodLink R_S 83 y_S_cut ∈ lw_G := z_in 231 (by decide +kernel)
theorem v_S_83 : GoodIn lw_G (wsV R_S 83 R_S y_S_cut (wz y_S_cut c_S_cut 3 none)) := z_V l_S_83 (z_in 233 (by decide +kernel)) (z_in 12 (by decide +kernel)) (z_in 27 (by decide +kernel)) h_S_cut
-- link ClauseCourt$Search 86 ('java/lang/Math', 'max', '(II)I') at 216
-- link ClauseCourt$Search 91 ('java/lang/Math', 'min', '(II)I') at 235
theorem l_W_7 : Cond.methodLink R_W 7 y_C_variable ∈ lw_G := z_in 310 (by decide +kernel)
theorem v_W_7 : GoodIn lw_G (wsV R_W 7 R_C y_C_variable (wz y_C_variable c_C_variable 1 (some .int))) := z_V l_W_7 (z_in 311 (by decide +kernel)) (z_in 312 (by decide +kernel)) (z_in 25 (by decide +kernel)) h_C_variable
theorem l_W_15 : Cond.methodLink R_W 15 y_C_literal ∈ lw_G := z_in 386 (by decide +kernel)
theorem v_W_15 : GoodIn lw_G (wsV R_W 15 R_C y_C_literal (wz y_C_literal c_C_literal 2 none)) := z_V l_W_15 (z_in 387 (by decide +kernel)) (z_in 388 (by decide +kernel)) (z_in 25 (by decide +kernel)) h_C_literal
theorem l_W_21 : Cond.methodLink R_W 21 y_C_close ∈ lw_G := z_in 417 (by decide +kernel)
theorem v_W_21 : GoodIn lw_G (wsV R_W 21 R_C y_C_close (wz y_C_close c_C_close 1 (some .int))) := z_V l_W_21 (z_in 418 (by decide +kernel)) (z_in 419 (by decide +kernel)) (z_in 25 (by decide +kernel)) h_C_close
theorem l_W_24 : Cond.methodLink R_W 24 y_C_assume ∈ lw_G := z_in 425 (by decide +kernel)
theorem v_W_24 : GoodIn lw_G (wsV R_W 24 R_C y_C_assume (wz y_C_assume c_C_assume 2 none)) := z_V l_W_24 (z_in 426 (by decide +kernel)) (z_in 427 (by decide +kernel)) (z_in 25 (by decide +kernel)) h_C_assume
theorem l_W_27 : Cond.methodLink R_W 27 y_C_follows ∈ lw_G := z_in 433 (by decide +kernel)
theorem v_W_27 : GoodIn lw_G (wsV R_W 27 R_C y_C_follows (wz y_C_follows c_C_follows 3 (some .boolean))) := z_V l_W_27 (z_in 434 (by decide +kernel)) (z_in 435 (by decide +kernel)) (z_in 25 (by decide +kernel)) h_C_follows
theorem l_W_31 : Cond.methodLink R_W 31 y_C_value ∈ lw_G := z_in 441 (by decide +kernel)
theorem v_W_31 : GoodIn lw_G (wsV R_W 31 R_C y_C_value (wz y_C_value c_C_value 2 (some .boolean))) := z_V l_W_31 (z_in 442 (by decide +kernel)) (z_in 443 (by decide +kernel)) (z_in 25 (by decide +kernel)) h_C_value
theorem l_W_36 : Cond.methodLink R_W 36 y_C_init ∈ lw_G := z_in 40 (by decide +kernel)
theorem l_W_39 : Cond.methodLink R_W 39 y_M_init ∈ lw_G := z_in 464 (by decide +kernel)
theorem l_W_40 : Cond.methodLink R_W 40 y_W_variable ∈ lw_G := z_in 306 (by decide +kernel)
theorem l_W_45 : Cond.methodLink R_W 45 y_M_variable ∈ lw_G := z_in 510 (by decide +kernel)
theorem v_W_45 : GoodIn lw_G (wsV R_W 45 R_M y_M_variable (wz y_M_variable c_M_variable 1 (some .int))) := z_V l_W_45 (z_in 511 (by decide +kernel)) (z_in 512 (by decide +kernel)) (z_in 29 (by decide +kernel)) h_M_variable
theorem l_W_46 : Cond.methodLink R_W 46 y_M_thrown ∈ lw_G := z_in 506 (by decide +kernel)
theorem v_W_46 : GoodIn lw_G (wsV R_W 46 R_M y_M_thrown (wz y_M_thrown c_M_thrown 1 (some .int))) := z_V l_W_46 (z_in 507 (by decide +kernel)) (z_in 508 (by decide +kernel)) (z_in 29 (by decide +kernel)) h_M_thrown
theorem l_W_49 : Cond.methodLink R_W 49 y_W_literal ∈ lw_G := z_in 382 (by decide +kernel)
theorem l_W_52 : Cond.methodLink R_W 52 y_M_literal ∈ lw_G := z_in 518 (by decide +kernel)
theorem v_W_52 : GoodIn lw_G (wsV R_W 52 R_M y_M_literal (wz y_M_literal c_M_literal 2 none)) := z_V l_W_52 (z_in 519 (by decide +kernel)) (z_in 520 (by decide +kernel)) (z_in 29 (by decide +kernel)) h_M_literal
theorem l_W_53 : Cond.methodLink R_W 53 y_W_close ∈ lw_G := z_in 414 (by decide +kernel)
theorem l_W_55 : Cond.methodLink R_W 55 y_M_close ∈ lw_G := z_in 526 (by decide +kernel)
theorem v_W_55 : GoodIn lw_G (wsV R_W 55 R_M y_M_close (wz y_M_close c_M_close 2 (some .int))) := z_V l_W_55 (z_in 527 (by decide +kernel)) (z_in 528 (by decide +kernel)) (z_in 29 (by decide +kernel)) h_M_close
theorem l_W_56 : Cond.methodLink R_W 56 y_W_assume ∈ lw_G := z_in 422 (by decide +kernel)
theorem l_W_58 : Cond.methodLink R_W 58 y_M_assume ∈ lw_G := z_in 530 (by decide +kernel)
theorem v_W_58 : GoodIn lw_G (wsV R_W 58 R_M y_M_assume (wz y_M_assume c_M_assume 2 none)) := z_V l_W_58 (z_in 531 (by decide +kernel)) (z_in 532 (by decide +kernel)) (z_in 29 (by decide +kernel)) h_M_assume
theorem l_W_59 : Cond.methodLink R_W 59 y_C_solve ∈ lw_G := z_in 138 (by decide +kernel)
theorem v_W_59 : GoodIn lw_G (wsV R_W 59 R_C y_C_solve (wz y_C_solve c_C_solve 1 (some .boolean))) := z_V l_W_59 (z_in 139 (by decide +kernel)) (z_in 140 (by decide +kernel)) (z_in 25 (by decide +kernel)) h_C_solve
theorem l_W_63 : Cond.methodLink R_W 63 y_M_solve ∈ lw_G := z_in 534 (by decide +kernel)
theorem v_W_63 : GoodIn lw_G (wsV R_W 63 R_M y_M_solve (wz y_M_solve c_M_solve 2 (some .boolean))) := z_V l_W_63 (z_in 535 (by decide +kernel)) (z_in 536 (by decide +kernel)) (z_in 29 (by decide +kernel)) h_M_solve
theorem l_W_64 : Cond.methodLink R_W 64 y_W_follows ∈ lw_G := z_in 430 (by decide +kernel)
theorem l_W_67 : Cond.methodLink R_W 67 y_M_follows ∈ lw_G := z_in 550 (by decide +kernel)
theorem v_W_67 : GoodIn lw_G (wsV R_W 67 R_M y_M_follows (wz y_M_follows c_M_follows 4 (some .boolean))) := z_V l_W_67 (z_in 551 (by decide +kernel)) (z_in 552 (by decide +kernel)) (z_in 29 (by decide +kernel)) h_M_follows
theorem l_W_68 : Cond.methodLink R_W 68 y_C_models ∈ lw_G := z_in 293 (by decide +kernel)
theorem v_W_68 : GoodIn lw_G (wsV R_W 68 R_C y_C_models (wz y_C_models c_C_models 2 (some .int))) := z_V l_W_68 (z_in 294 (by decide +kernel)) (z_in 295 (by decide +kernel)) (z_in 25 (by decide +kernel)) h_C_models
theorem l_W_71 : Cond.methodLink R_W 71 y_M_models ∈ lw_G := z_in 558 (by decide +kernel)
theorem v_W_71 : GoodIn lw_G (wsV R_W 71 R_M y_M_models (wz y_M_models c_M_models 3 (some .int))) := z_V l_W_71 (z_in 559 (by decide +kernel)) (z_in 560 (by decide +kernel)) (z_in 29 (by decide +kernel)) h_M_models
theorem l_W_72 : Cond.methodLink R_W 72 y_W_value ∈ lw_G := z_in 437 (by decide +kernel)
theorem l_W_74 : Cond.methodLink R_W 74 y_M_value ∈ lw_G := z_in 562 (by decide +kernel)
theorem v_W_74 : GoodIn lw_G (wsV R_W 74 R_M y_M_value (wz y_M_value c_M_value 2 (some .boolean))) := z_V l_W_74 (z_in 563 (by decide +kernel)) (z_in 564 (by decide +kernel)) (z_in 29 (by decide +kernel)) h_M_value
theorem l_W_75 : Cond.methodLink R_W 75 y_C_count ∈ lw_G := z_in 298 (by decide +kernel)
theorem v_W_75 : GoodIn lw_G (wsV R_W 75 R_C y_C_count (wz y_C_count c_C_count 2 (some .int))) := z_V l_W_75 (z_in 299 (by decide +kernel)) (z_in 300 (by decide +kernel)) (z_in 25 (by decide +kernel)) h_C_count
theorem l_W_79 : Cond.methodLink R_W 79 y_M_count ∈ lw_G := z_in 566 (by decide +kernel)
theorem v_W_79 : GoodIn lw_G (wsV R_W 79 R_M y_M_count (wz y_M_count c_M_count 2 (some .int))) := z_V l_W_79 (z_in 567 (by decide +kernel)) (z_in 568 (by decide +kernel)) (z_in 29 (by decide +kernel)) h_M_count
theorem g_max_s : Cond.static Lib.Math.max.name ∈ lw_G := z_in 217 (by decide +kernel)
theorem g_max_c : Cond.code Lib.Math.max.name Lib.Math.max.code 2 (some .int) ∈ lw_G := z_in 218 (by decide +kernel)
theorem g_min_s : Cond.static Lib.Math.min.name ∈ lw_G := z_in 236 (by decide +kernel)
theorem g_min_c : Cond.code Lib.Math.min.name Lib.Math.min.code 2 (some .int) ∈ lw_G := z_in 237 (by decide +kernel)
theorem g_D_38 : Cond.methodLink R_D 38 Lib.Math.max.name ∈ lw_G := z_in 291 (by decide +kernel)
theorem g_D_44 : Cond.methodLink R_D 44 Lib.Math.min.name ∈ lw_G := z_in 292 (by decide +kernel)
theorem g_S_86 : Cond.methodLink R_S 86 Lib.Math.max.name ∈ lw_G := z_in 216 (by decide +kernel)
theorem g_S_91 : Cond.methodLink R_S 91 Lib.Math.min.name ∈ lw_G := z_in 235 (by decide +kernel)
theorem g_math_i : Cond.initialized "java/lang/Math" ∈ lw_G := z_in 36 (by decide +kernel)
theorem g_S_25 : Cond.constant R_S 25 100000 ∈ lw_G := z_in 166 (by decide +kernel)
end
section
/-! decode rows, by program -/
theorem d_D_init_0 : decode c_D_init 0 = .ok (.aload_n 0, 1) := by decide +kernel
theorem d_D_init_1 : decode c_D_init 1 = .ok (.invokespecial 5, 3) := by decide +kernel
theorem d_D_init_4 : decode c_D_init 4 = .ok (.aload_n 0, 1) := by decide +kernel
theorem d_D_init_5 : decode c_D_init 5 = .ok (.sipush 1575, 3) := by decide +kernel
theorem d_D_init_8 : decode c_D_init 8 = .ok (.newarray .int, 2) := by decide +kernel
theorem d_D_init_10 : decode c_D_init 10 = .ok (.putfield 11, 3) := by decide +kernel
theorem d_D_init_13 : decode c_D_init 13 = .ok (.aload_n 0, 1) := by decide +kernel
theorem d_D_init_14 : decode c_D_init 14 = .ok (.sipush 1575, 3) := by decide +kernel
theorem d_D_init_17 : decode c_D_init 17 = .ok (.newarray .int, 2) := by decide +kernel
theorem d_D_init_19 : decode c_D_init 19 = .ok (.putfield 15, 3) := by decide +kernel
theorem d_D_init_22 : decode c_D_init 22 = .ok (.aload_n 0, 1) := by decide +kernel
theorem d_D_init_23 : decode c_D_init 23 = .ok (.sipush 1575, 3) := by decide +kernel
theorem d_D_init_26 : decode c_D_init 26 = .ok (.newarray .int, 2) := by decide +kernel
theorem d_D_init_28 : decode c_D_init 28 = .ok (.putfield 18, 3) := by decide +kernel
theorem d_D_init_31 : decode c_D_init 31 = .ok (.aload_n 0, 1) := by decide +kernel
theorem d_D_init_32 : decode c_D_init 32 = .ok (.sipush 3060, 3) := by decide +kernel
theorem d_D_init_35 : decode c_D_init 35 = .ok (.newarray .int, 2) := by decide +kernel
theorem d_D_init_37 : decode c_D_init 37 = .ok (.putfield 21, 3) := by decide +kernel
theorem d_D_init_40 : decode c_D_init 40 = .ok (.return_, 1) := by decide +kernel
theorem d_D_give_0 : decode c_D_give 0 = .ok (.aload_n 0, 1) := by decide +kernel
theorem d_D_give_1 : decode c_D_give 1 = .ok (.iload_n 1, 1) := by decide +kernel
theorem d_D_give_2 : decode c_D_give 2 = .ok (.iconst (-1), 1) := by decide +kernel
theorem d_D_give_3 : decode c_D_give 3 = .ok (.iconst (-1), 1) := by decide +kernel
theorem d_D_give_4 : decode c_D_give 4 = .ok (.invokevirtual 24, 3) := by decide +kernel
theorem d_D_give_7 : decode c_D_give 7 = .ok (.return_, 1) := by decide +kernel
theorem d_D_link_0 : decode c_D_link 0 = .ok (.aload_n 0, 1) := by decide +kernel
theorem d_D_link_1 : decode c_D_link 1 = .ok (.getfield 28, 3) := by decide +kernel
theorem d_D_link_4 : decode c_D_link 4 = .ok (.aload_n 0, 1) := by decide +kernel
theorem d_D_link_5 : decode c_D_link 5 = .ok (.getfield 21, 3) := by decide +kernel
theorem d_D_link_8 : decode c_D_link 8 = .ok (.arraylength, 1) := by decide +kernel
theorem d_D_link_9 : decode c_D_link 9 = .ok (.if_icmp .ge 23, 3) := by decide +kernel
theorem d_D_link_12 : decode c_D_link 12 = .ok (.aload_n 0, 1) := by decide +kernel
theorem d_D_link_13 : decode c_D_link 13 = .ok (.getfield 21, 3) := by decide +kernel
theorem d_D_link_16 : decode c_D_link 16 = .ok (.aload_n 0, 1) := by decide +kernel
theorem d_D_link_17 : decode c_D_link 17 = .ok (.getfield 28, 3) := by decide +kernel
theorem d_D_link_20 : decode c_D_link 20 = .ok (.iload_n 1, 1) := by decide +kernel
theorem d_D_link_21 : decode c_D_link 21 = .ok (.iastore, 1) := by decide +kernel
theorem d_D_link_22 : decode c_D_link 22 = .ok (.aload_n 0, 1) := by decide +kernel
theorem d_D_link_23 : decode c_D_link 23 = .ok (.dup, 1) := by decide +kernel
theorem d_D_link_24 : decode c_D_link 24 = .ok (.getfield 28, 3) := by decide +kernel
theorem d_D_link_27 : decode c_D_link 27 = .ok (.iconst 1, 1) := by decide +kernel
theorem d_D_link_28 : decode c_D_link 28 = .ok (.iadd, 1) := by decide +kernel
theorem d_D_link_29 : decode c_D_link 29 = .ok (.putfield 28, 3) := by decide +kernel
theorem d_D_link_32 : decode c_D_link 32 = .ok (.return_, 1) := by decide +kernel
theorem d_D_derive_0 : decode c_D_derive 0 = .ok (.aload_n 0, 1) := by decide +kernel
theorem d_D_derive_1 : decode c_D_derive 1 = .ok (.iload_n 1, 1) := by decide +kernel
theorem d_D_derive_2 : decode c_D_derive 2 = .ok (.aload_n 0, 1) := by decide +kernel
theorem d_D_derive_3 : decode c_D_derive 3 = .ok (.getfield 32, 3) := by decide +kernel
theorem d_D_derive_6 : decode c_D_derive 6 = .ok (.aload_n 0, 1) := by decide +kernel
theorem d_D_derive_7 : decode c_D_derive 7 = .ok (.getfield 28, 3) := by decide +kernel
theorem d_D_derive_10 : decode c_D_derive 10 = .ok (.invokevirtual 24, 3) := by decide +kernel
theorem d_D_derive_13 : decode c_D_derive 13 = .ok (.aload_n 0, 1) := by decide +kernel
theorem d_D_derive_14 : decode c_D_derive 14 = .ok (.aload_n 0, 1) := by decide +kernel
theorem d_D_derive_15 : decode c_D_derive 15 = .ok (.getfield 28, 3) := by decide +kernel
theorem d_D_derive_18 : decode c_D_derive 18 = .ok (.putfield 32, 3) := by decide +kernel
theorem d_D_derive_21 : decode c_D_derive 21 = .ok (.return_, 1) := by decide +kernel
theorem d_D_append_0 : decode c_D_append 0 = .ok (.aload_n 0, 1) := by decide +kernel
theorem d_D_append_1 : decode c_D_append 1 = .ok (.getfield 35, 3) := by decide +kernel
theorem d_D_append_4 : decode c_D_append 4 = .ok (.aload_n 0, 1) := by decide +kernel
theorem d_D_append_5 : decode c_D_append 5 = .ok (.getfield 11, 3) := by decide +kernel
theorem d_D_append_8 : decode c_D_append 8 = .ok (.arraylength, 1) := by decide +kernel
theorem d_D_append_9 : decode c_D_append 9 = .ok (.if_icmp .ge 43, 3) := by decide +kernel
theorem d_D_append_12 : decode c_D_append 12 = .ok (.aload_n 0, 1) := by decide +kernel
theorem d_D_append_13 : decode c_D_append 13 = .ok (.getfield 11, 3) := by decide +kernel
theorem d_D_append_16 : decode c_D_append 16 = .ok (.aload_n 0, 1) := by decide +kernel
theorem d_D_append_17 : decode c_D_append 17 = .ok (.getfield 35, 3) := by decide +kernel
theorem d_D_append_20 : decode c_D_append 20 = .ok (.iload_n 1, 1) := by decide +kernel
theorem d_D_append_21 : decode c_D_append 21 = .ok (.iastore, 1) := by decide +kernel
theorem d_D_append_22 : decode c_D_append 22 = .ok (.aload_n 0, 1) := by decide +kernel
theorem d_D_append_23 : decode c_D_append 23 = .ok (.getfield 15, 3) := by decide +kernel
theorem d_D_append_26 : decode c_D_append 26 = .ok (.aload_n 0, 1) := by decide +kernel
theorem d_D_append_27 : decode c_D_append 27 = .ok (.getfield 35, 3) := by decide +kernel
theorem d_D_append_30 : decode c_D_append 30 = .ok (.iload_n 2, 1) := by decide +kernel
theorem d_D_append_31 : decode c_D_append 31 = .ok (.iastore, 1) := by decide +kernel
theorem d_D_append_32 : decode c_D_append 32 = .ok (.aload_n 0, 1) := by decide +kernel
theorem d_D_append_33 : decode c_D_append 33 = .ok (.getfield 18, 3) := by decide +kernel
theorem d_D_append_36 : decode c_D_append 36 = .ok (.aload_n 0, 1) := by decide +kernel
theorem d_D_append_37 : decode c_D_append 37 = .ok (.getfield 35, 3) := by decide +kernel
theorem d_D_append_40 : decode c_D_append 40 = .ok (.iload_n 3, 1) := by decide +kernel
theorem d_D_append_41 : decode c_D_append 41 = .ok (.iastore, 1) := by decide +kernel
theorem d_D_append_42 : decode c_D_append 42 = .ok (.aload_n 0, 1) := by decide +kernel
theorem d_D_append_43 : decode c_D_append 43 = .ok (.dup, 1) := by decide +kernel
theorem d_D_append_44 : decode c_D_append 44 = .ok (.getfield 35, 3) := by decide +kernel
theorem d_D_append_47 : decode c_D_append 47 = .ok (.iconst 1, 1) := by decide +kernel
theorem d_D_append_48 : decode c_D_append 48 = .ok (.iadd, 1) := by decide +kernel
theorem d_D_append_49 : decode c_D_append 49 = .ok (.putfield 35, 3) := by decide +kernel
theorem d_D_append_52 : decode c_D_append 52 = .ok (.return_, 1) := by decide +kernel
theorem d_D_keep_0 : decode c_D_keep 0 = .ok (.aload_n 0, 1) := by decide +kernel
theorem d_D_keep_1 : decode c_D_keep 1 = .ok (.aload_n 0, 1) := by decide +kernel
theorem d_D_keep_2 : decode c_D_keep 2 = .ok (.getfield 35, 3) := by decide +kernel
theorem d_D_keep_5 : decode c_D_keep 5 = .ok (.iload_n 1, 1) := by decide +kernel
theorem d_D_keep_6 : decode c_D_keep 6 = .ok (.iconst 0, 1) := by decide +kernel
theorem d_D_keep_7 : decode c_D_keep 7 = .ok (.invokestatic 38, 3) := by decide +kernel
theorem d_D_keep_10 : decode c_D_keep 10 = .ok (.invokestatic 44, 3) := by decide +kernel
theorem d_D_keep_13 : decode c_D_keep 13 = .ok (.putfield 35, 3) := by decide +kernel
theorem d_D_keep_16 : decode c_D_keep 16 = .ok (.aload_n 0, 1) := by decide +kernel
theorem d_D_keep_17 : decode c_D_keep 17 = .ok (.iconst 0, 1) := by decide +kernel
theorem d_D_keep_18 : decode c_D_keep 18 = .ok (.putfield 28, 3) := by decide +kernel
theorem d_D_keep_21 : decode c_D_keep 21 = .ok (.aload_n 0, 1) := by decide +kernel
theorem d_D_keep_22 : decode c_D_keep 22 = .ok (.iconst 0, 1) := by decide +kernel
theorem d_D_keep_23 : decode c_D_keep 23 = .ok (.putfield 32, 3) := by decide +kernel
theorem d_D_keep_26 : decode c_D_keep 26 = .ok (.return_, 1) := by decide +kernel
theorem d_D_size_0 : decode c_D_size 0 = .ok (.aload_n 0, 1) := by decide +kernel
theorem d_D_size_1 : decode c_D_size 1 = .ok (.getfield 35, 3) := by decide +kernel
theorem d_D_size_4 : decode c_D_size 4 = .ok (.ireturn, 1) := by decide +kernel
theorem d_D_has_0 : decode c_D_has 0 = .ok (.iload_n 1, 1) := by decide +kernel
theorem d_D_has_1 : decode c_D_has 1 = .ok (.ifCond .lt 15, 3) := by decide +kernel
theorem d_D_has_4 : decode c_D_has 4 = .ok (.iload_n 1, 1) := by decide +kernel
theorem d_D_has_5 : decode c_D_has 5 = .ok (.aload_n 0, 1) := by decide +kernel
theorem d_D_has_6 : decode c_D_has 6 = .ok (.getfield 35, 3) := by decide +kernel
theorem d_D_has_9 : decode c_D_has 9 = .ok (.if_icmp .ge 7, 3) := by decide +kernel
theorem d_D_has_12 : decode c_D_has 12 = .ok (.iconst 1, 1) := by decide +kernel
theorem d_D_has_13 : decode c_D_has 13 = .ok (.goto 4, 3) := by decide +kernel
theorem d_D_has_16 : decode c_D_has 16 = .ok (.iconst 0, 1) := by decide +kernel
theorem d_D_has_17 : decode c_D_has 17 = .ok (.ireturn, 1) := by decide +kernel
theorem d_D_clause_0 : decode c_D_clause 0 = .ok (.aload_n 0, 1) := by decide +kernel
theorem d_D_clause_1 : decode c_D_clause 1 = .ok (.iload_n 1, 1) := by decide +kernel
theorem d_D_clause_2 : decode c_D_clause 2 = .ok (.invokevirtual 47, 3) := by decide +kernel
theorem d_D_clause_5 : decode c_D_clause 5 = .ok (.ifCond .eq 12, 3) := by decide +kernel
theorem d_D_clause_8 : decode c_D_clause 8 = .ok (.aload_n 0, 1) := by decide +kernel
theorem d_D_clause_9 : decode c_D_clause 9 = .ok (.getfield 11, 3) := by decide +kernel
theorem d_D_clause_12 : decode c_D_clause 12 = .ok (.iload_n 1, 1) := by decide +kernel
theorem d_D_clause_13 : decode c_D_clause 13 = .ok (.iaload, 1) := by decide +kernel
theorem d_D_clause_14 : decode c_D_clause 14 = .ok (.goto 4, 3) := by decide +kernel
theorem d_D_clause_17 : decode c_D_clause 17 = .ok (.iconst 0, 1) := by decide +kernel
theorem d_D_clause_18 : decode c_D_clause 18 = .ok (.ireturn, 1) := by decide +kernel
theorem d_D_isDerived_0 : decode c_D_isDerived 0 = .ok (.aload_n 0, 1) := by decide +kernel
theorem d_D_isDerived_1 : decode c_D_isDerived 1 = .ok (.iload_n 1, 1) := by decide +kernel
theorem d_D_isDerived_2 : decode c_D_isDerived 2 = .ok (.invokevirtual 51, 3) := by decide +kernel
theorem d_D_isDerived_5 : decode c_D_isDerived 5 = .ok (.iconst (-1), 1) := by decide +kernel
theorem d_D_isDerived_6 : decode c_D_isDerived 6 = .ok (.if_icmp .eq 7, 3) := by decide +kernel
theorem d_D_isDerived_9 : decode c_D_isDerived 9 = .ok (.iconst 1, 1) := by decide +kernel
theorem d_D_isDerived_10 : decode c_D_isDerived 10 = .ok (.goto 4, 3) := by decide +kernel
theorem d_D_isDerived_13 : decode c_D_isDerived 13 = .ok (.iconst 0, 1) := by decide +kernel
theorem d_D_isDerived_14 : decode c_D_isDerived 14 = .ok (.ireturn, 1) := by decide +kernel
theorem d_D_linksFrom_0 : decode c_D_linksFrom 0 = .ok (.aload_n 0, 1) := by decide +kernel
theorem d_D_linksFrom_1 : decode c_D_linksFrom 1 = .ok (.iload_n 1, 1) := by decide +kernel
theorem d_D_linksFrom_2 : decode c_D_linksFrom 2 = .ok (.invokevirtual 47, 3) := by decide +kernel
theorem d_D_linksFrom_5 : decode c_D_linksFrom 5 = .ok (.ifCond .eq 12, 3) := by decide +kernel
theorem d_D_linksFrom_8 : decode c_D_linksFrom 8 = .ok (.aload_n 0, 1) := by decide +kernel
theorem d_D_linksFrom_9 : decode c_D_linksFrom 9 = .ok (.getfield 15, 3) := by decide +kernel
theorem d_D_linksFrom_12 : decode c_D_linksFrom 12 = .ok (.iload_n 1, 1) := by decide +kernel
theorem d_D_linksFrom_13 : decode c_D_linksFrom 13 = .ok (.iaload, 1) := by decide +kernel
theorem d_D_linksFrom_14 : decode c_D_linksFrom 14 = .ok (.goto 4, 3) := by decide +kernel
theorem d_D_linksFrom_17 : decode c_D_linksFrom 17 = .ok (.iconst (-1), 1) := by decide +kernel
theorem d_D_linksFrom_18 : decode c_D_linksFrom 18 = .ok (.ireturn, 1) := by decide +kernel
theorem d_D_linksTo_0 : decode c_D_linksTo 0 = .ok (.aload_n 0, 1) := by decide +kernel
theorem d_D_linksTo_1 : decode c_D_linksTo 1 = .ok (.iload_n 1, 1) := by decide +kernel
theorem d_D_linksTo_2 : decode c_D_linksTo 2 = .ok (.invokevirtual 47, 3) := by decide +kernel
theorem d_D_linksTo_5 : decode c_D_linksTo 5 = .ok (.ifCond .eq 12, 3) := by decide +kernel
theorem d_D_linksTo_8 : decode c_D_linksTo 8 = .ok (.aload_n 0, 1) := by decide +kernel
theorem d_D_linksTo_9 : decode c_D_linksTo 9 = .ok (.getfield 18, 3) := by decide +kernel
theorem d_D_linksTo_12 : decode c_D_linksTo 12 = .ok (.iload_n 1, 1) := by decide +kernel
theorem d_D_linksTo_13 : decode c_D_linksTo 13 = .ok (.iaload, 1) := by decide +kernel
theorem d_D_linksTo_14 : decode c_D_linksTo 14 = .ok (.goto 4, 3) := by decide +kernel
theorem d_D_linksTo_17 : decode c_D_linksTo 17 = .ok (.iconst (-1), 1) := by decide +kernel
theorem d_D_linksTo_18 : decode c_D_linksTo 18 = .ok (.ireturn, 1) := by decide +kernel
theorem d_D_linkAt_0 : decode c_D_linkAt 0 = .ok (.iload_n 1, 1) := by decide +kernel
theorem d_D_linkAt_1 : decode c_D_linkAt 1 = .ok (.ifCond .lt 20, 3) := by decide +kernel
theorem d_D_linkAt_4 : decode c_D_linkAt 4 = .ok (.iload_n 1, 1) := by decide +kernel
theorem d_D_linkAt_5 : decode c_D_linkAt 5 = .ok (.aload_n 0, 1) := by decide +kernel
theorem d_D_linkAt_6 : decode c_D_linkAt 6 = .ok (.getfield 28, 3) := by decide +kernel
theorem d_D_linkAt_9 : decode c_D_linkAt 9 = .ok (.if_icmp .ge 12, 3) := by decide +kernel
theorem d_D_linkAt_12 : decode c_D_linkAt 12 = .ok (.aload_n 0, 1) := by decide +kernel
theorem d_D_linkAt_13 : decode c_D_linkAt 13 = .ok (.getfield 21, 3) := by decide +kernel
theorem d_D_linkAt_16 : decode c_D_linkAt 16 = .ok (.iload_n 1, 1) := by decide +kernel
theorem d_D_linkAt_17 : decode c_D_linkAt 17 = .ok (.iaload, 1) := by decide +kernel
theorem d_D_linkAt_18 : decode c_D_linkAt 18 = .ok (.goto 4, 3) := by decide +kernel
theorem d_D_linkAt_21 : decode c_D_linkAt 21 = .ok (.iconst (-1), 1) := by decide +kernel
theorem d_D_linkAt_22 : decode c_D_linkAt 22 = .ok (.ireturn, 1) := by decide +kernel
theorem d_L_of_0 : decode c_L_of 0 = .ok (.iload_n 0, 1) := by decide +kernel
theorem d_L_of_1 : decode c_L_of 1 = .ok (.ifCond .le 11, 3) := by decide +kernel
theorem d_L_of_4 : decode c_L_of 4 = .ok (.iconst 1, 1) := by decide +kernel
theorem d_L_of_5 : decode c_L_of 5 = .ok (.iload_n 0, 1) := by decide +kernel
theorem d_L_of_6 : decode c_L_of 6 = .ok (.iconst 1, 1) := by decide +kernel
theorem d_L_of_7 : decode c_L_of 7 = .ok (.isub, 1) := by decide +kernel
theorem d_L_of_8 : decode c_L_of 8 = .ok (.ishl, 1) := by decide +kernel
theorem d_L_of_9 : decode c_L_of 9 = .ok (.goto 11, 3) := by decide +kernel
theorem d_L_of_12 : decode c_L_of 12 = .ok (.iconst 1, 1) := by decide +kernel
theorem d_L_of_13 : decode c_L_of 13 = .ok (.bipush 10, 2) := by decide +kernel
theorem d_L_of_15 : decode c_L_of 15 = .ok (.iload_n 0, 1) := by decide +kernel
theorem d_L_of_16 : decode c_L_of 16 = .ok (.isub, 1) := by decide +kernel
theorem d_L_of_17 : decode c_L_of 17 = .ok (.iconst 1, 1) := by decide +kernel
theorem d_L_of_18 : decode c_L_of 18 = .ok (.isub, 1) := by decide +kernel
theorem d_L_of_19 : decode c_L_of 19 = .ok (.ishl, 1) := by decide +kernel
theorem d_L_of_20 : decode c_L_of 20 = .ok (.ireturn, 1) := by decide +kernel
theorem d_L_opposite_0 : decode c_L_opposite 0 = .ok (.iload_n 0, 1) := by decide +kernel
theorem d_L_opposite_1 : decode c_L_opposite 1 = .ok (.sipush 1023, 3) := by decide +kernel
theorem d_L_opposite_4 : decode c_L_opposite 4 = .ok (.iand, 1) := by decide +kernel
theorem d_L_opposite_5 : decode c_L_opposite 5 = .ok (.istore_n 1, 1) := by decide +kernel
theorem d_L_opposite_6 : decode c_L_opposite 6 = .ok (.iload_n 0, 1) := by decide +kernel
theorem d_L_opposite_7 : decode c_L_opposite 7 = .ok (.bipush 10, 2) := by decide +kernel
theorem d_L_opposite_9 : decode c_L_opposite 9 = .ok (.iushr, 1) := by decide +kernel
theorem d_L_opposite_10 : decode c_L_opposite 10 = .ok (.sipush 1023, 3) := by decide +kernel
theorem d_L_opposite_13 : decode c_L_opposite 13 = .ok (.iand, 1) := by decide +kernel
theorem d_L_opposite_14 : decode c_L_opposite 14 = .ok (.istore_n 2, 1) := by decide +kernel
theorem d_L_opposite_15 : decode c_L_opposite 15 = .ok (.iload_n 1, 1) := by decide +kernel
theorem d_L_opposite_16 : decode c_L_opposite 16 = .ok (.bipush 10, 2) := by decide +kernel
theorem d_L_opposite_18 : decode c_L_opposite 18 = .ok (.ishl, 1) := by decide +kernel
theorem d_L_opposite_19 : decode c_L_opposite 19 = .ok (.iload_n 2, 1) := by decide +kernel
theorem d_L_opposite_20 : decode c_L_opposite 20 = .ok (.ior, 1) := by decide +kernel
theorem d_L_opposite_21 : decode c_L_opposite 21 = .ok (.ireturn, 1) := by decide +kernel
theorem d_L_isSingle_0 : decode c_L_isSingle 0 = .ok (.iload_n 0, 1) := by decide +kernel
theorem d_L_isSingle_1 : decode c_L_isSingle 1 = .ok (.ifCond .eq 15, 3) := by decide +kernel
theorem d_L_isSingle_4 : decode c_L_isSingle 4 = .ok (.iload_n 0, 1) := by decide +kernel
theorem d_L_isSingle_5 : decode c_L_isSingle 5 = .ok (.iload_n 0, 1) := by decide +kernel
theorem d_L_isSingle_6 : decode c_L_isSingle 6 = .ok (.iconst 1, 1) := by decide +kernel
theorem d_L_isSingle_7 : decode c_L_isSingle 7 = .ok (.isub, 1) := by decide +kernel
theorem d_L_isSingle_8 : decode c_L_isSingle 8 = .ok (.iand, 1) := by decide +kernel
theorem d_L_isSingle_9 : decode c_L_isSingle 9 = .ok (.ifCond .ne 7, 3) := by decide +kernel
theorem d_L_isSingle_12 : decode c_L_isSingle 12 = .ok (.iconst 1, 1) := by decide +kernel
theorem d_L_isSingle_13 : decode c_L_isSingle 13 = .ok (.goto 4, 3) := by decide +kernel
theorem d_L_isSingle_16 : decode c_L_isSingle 16 = .ok (.iconst 0, 1) := by decide +kernel
theorem d_L_isSingle_17 : decode c_L_isSingle 17 = .ok (.ireturn, 1) := by decide +kernel
theorem d_L_positivesUpTo_0 : decode c_L_positivesUpTo 0 = .ok (.iconst 1, 1) := by decide +kernel
theorem d_L_positivesUpTo_1 : decode c_L_positivesUpTo 1 = .ok (.iload_n 0, 1) := by decide +kernel
theorem d_L_positivesUpTo_2 : decode c_L_positivesUpTo 2 = .ok (.ishl, 1) := by decide +kernel
theorem d_L_positivesUpTo_3 : decode c_L_positivesUpTo 3 = .ok (.iconst 1, 1) := by decide +kernel
theorem d_L_positivesUpTo_4 : decode c_L_positivesUpTo 4 = .ok (.isub, 1) := by decide +kernel
theorem d_L_positivesUpTo_5 : decode c_L_positivesUpTo 5 = .ok (.ireturn, 1) := by decide +kernel
end
section
/-! decode rows, by program -/
theorem d_H_init_0 : decode c_H_init 0 = .ok (.aload_n 0, 1) := by decide +kernel
theorem d_H_init_1 : decode c_H_init 1 = .ok (.invokespecial 3, 3) := by decide +kernel
theorem d_H_init_4 : decode c_H_init 4 = .ok (.return_, 1) := by decide +kernel
theorem d_H_faults_0 : decode c_H_faults 0 = .ok (.aload_n 0, 1) := by decide +kernel
theorem d_H_faults_1 : decode c_H_faults 1 = .ok (.getfield 9, 3) := by decide +kernel
theorem d_H_faults_4 : decode c_H_faults 4 = .ok (.ireturn, 1) := by decide +kernel
theorem d_H_checkModel_0 : decode c_H_checkModel 0 = .ok (.aload_n 1, 1) := by decide +kernel
theorem d_H_checkModel_1 : decode c_H_checkModel 1 = .ok (.iload_n 2, 1) := by decide +kernel
theorem d_H_checkModel_2 : decode c_H_checkModel 2 = .ok (.iload_n 3, 1) := by decide +kernel
theorem d_H_checkModel_3 : decode c_H_checkModel 3 = .ok (.invokestatic 15, 3) := by decide +kernel
theorem d_H_checkModel_6 : decode c_H_checkModel 6 = .ok (.ifCond .ne 13, 3) := by decide +kernel
theorem d_H_checkModel_9 : decode c_H_checkModel 9 = .ok (.aload_n 0, 1) := by decide +kernel
theorem d_H_checkModel_10 : decode c_H_checkModel 10 = .ok (.dup, 1) := by decide +kernel
theorem d_H_checkModel_11 : decode c_H_checkModel 11 = .ok (.getfield 9, 3) := by decide +kernel
theorem d_H_checkModel_14 : decode c_H_checkModel 14 = .ok (.iconst 1, 1) := by decide +kernel
theorem d_H_checkModel_15 : decode c_H_checkModel 15 = .ok (.iadd, 1) := by decide +kernel
theorem d_H_checkModel_16 : decode c_H_checkModel 16 = .ok (.putfield 9, 3) := by decide +kernel
theorem d_H_checkModel_19 : decode c_H_checkModel 19 = .ok (.return_, 1) := by decide +kernel
theorem d_H_isModel_0 : decode c_H_isModel 0 = .ok (.iload_n 1, 1) := by decide +kernel
theorem d_H_isModel_1 : decode c_H_isModel 1 = .ok (.invokestatic 19, 3) := by decide +kernel
theorem d_H_isModel_4 : decode c_H_isModel 4 = .ok (.istore_n 3, 1) := by decide +kernel
theorem d_H_isModel_5 : decode c_H_isModel 5 = .ok (.iload_n 2, 1) := by decide +kernel
theorem d_H_isModel_6 : decode c_H_isModel 6 = .ok (.invokestatic 25, 3) := by decide +kernel
theorem d_H_isModel_9 : decode c_H_isModel 9 = .ok (.istore 4, 2) := by decide +kernel
theorem d_H_isModel_11 : decode c_H_isModel 11 = .ok (.iload_n 1, 1) := by decide +kernel
theorem d_H_isModel_12 : decode c_H_isModel 12 = .ok (.iload_n 3, 1) := by decide +kernel
theorem d_H_isModel_13 : decode c_H_isModel 13 = .ok (.iand, 1) := by decide +kernel
theorem d_H_isModel_14 : decode c_H_isModel 14 = .ok (.ifCond .ne 17, 3) := by decide +kernel
theorem d_H_isModel_17 : decode c_H_isModel 17 = .ok (.iload_n 1, 1) := by decide +kernel
theorem d_H_isModel_18 : decode c_H_isModel 18 = .ok (.iload_n 3, 1) := by decide +kernel
theorem d_H_isModel_19 : decode c_H_isModel 19 = .ok (.ior, 1) := by decide +kernel
theorem d_H_isModel_20 : decode c_H_isModel 20 = .ok (.iload 4, 2) := by decide +kernel
theorem d_H_isModel_22 : decode c_H_isModel 22 = .ok (.iload 4, 2) := by decide +kernel
theorem d_H_isModel_24 : decode c_H_isModel 24 = .ok (.invokestatic 19, 3) := by decide +kernel
theorem d_H_isModel_27 : decode c_H_isModel 27 = .ok (.ior, 1) := by decide +kernel
theorem d_H_isModel_28 : decode c_H_isModel 28 = .ok (.if_icmp .eq 5, 3) := by decide +kernel
theorem d_H_isModel_31 : decode c_H_isModel 31 = .ok (.iconst 0, 1) := by decide +kernel
theorem d_H_isModel_32 : decode c_H_isModel 32 = .ok (.ireturn, 1) := by decide +kernel
theorem d_H_isModel_33 : decode c_H_isModel 33 = .ok (.iconst 0, 1) := by decide +kernel
theorem d_H_isModel_34 : decode c_H_isModel 34 = .ok (.istore 5, 2) := by decide +kernel
theorem d_H_isModel_36 : decode c_H_isModel 36 = .ok (.iload 5, 2) := by decide +kernel
theorem d_H_isModel_38 : decode c_H_isModel 38 = .ok (.aload_n 0, 1) := by decide +kernel
theorem d_H_isModel_39 : decode c_H_isModel 39 = .ok (.invokevirtual 28, 3) := by decide +kernel
theorem d_H_isModel_42 : decode c_H_isModel 42 = .ok (.if_icmp .ge 31, 3) := by decide +kernel
theorem d_H_isModel_45 : decode c_H_isModel 45 = .ok (.aload_n 0, 1) := by decide +kernel
theorem d_H_isModel_46 : decode c_H_isModel 46 = .ok (.iload 5, 2) := by decide +kernel
theorem d_H_isModel_48 : decode c_H_isModel 48 = .ok (.invokevirtual 34, 3) := by decide +kernel
theorem d_H_isModel_51 : decode c_H_isModel 51 = .ok (.ifCond .ne 16, 3) := by decide +kernel
theorem d_H_isModel_54 : decode c_H_isModel 54 = .ok (.aload_n 0, 1) := by decide +kernel
theorem d_H_isModel_55 : decode c_H_isModel 55 = .ok (.iload 5, 2) := by decide +kernel
theorem d_H_isModel_57 : decode c_H_isModel 57 = .ok (.invokevirtual 38, 3) := by decide +kernel
theorem d_H_isModel_60 : decode c_H_isModel 60 = .ok (.iload_n 1, 1) := by decide +kernel
theorem d_H_isModel_61 : decode c_H_isModel 61 = .ok (.iand, 1) := by decide +kernel
theorem d_H_isModel_62 : decode c_H_isModel 62 = .ok (.ifCond .ne 5, 3) := by decide +kernel
theorem d_H_isModel_65 : decode c_H_isModel 65 = .ok (.iconst 0, 1) := by decide +kernel
theorem d_H_isModel_66 : decode c_H_isModel 66 = .ok (.ireturn, 1) := by decide +kernel
theorem d_H_isModel_67 : decode c_H_isModel 67 = .ok (.iinc 5 1, 3) := by decide +kernel
theorem d_H_isModel_70 : decode c_H_isModel 70 = .ok (.goto (-34), 3) := by decide +kernel
theorem d_H_isModel_73 : decode c_H_isModel 73 = .ok (.iconst 1, 1) := by decide +kernel
theorem d_H_isModel_74 : decode c_H_isModel 74 = .ok (.ireturn, 1) := by decide +kernel
theorem d_H_checkProof_0 : decode c_H_checkProof 0 = .ok (.iconst 0, 1) := by decide +kernel
theorem d_H_checkProof_1 : decode c_H_checkProof 1 = .ok (.istore_n 2, 1) := by decide +kernel
theorem d_H_checkProof_2 : decode c_H_checkProof 2 = .ok (.iload_n 2, 1) := by decide +kernel
theorem d_H_checkProof_3 : decode c_H_checkProof 3 = .ok (.aload_n 1, 1) := by decide +kernel
theorem d_H_checkProof_4 : decode c_H_checkProof 4 = .ok (.invokevirtual 28, 3) := by decide +kernel
theorem d_H_checkProof_7 : decode c_H_checkProof 7 = .ok (.if_icmp .ge 23, 3) := by decide +kernel
theorem d_H_checkProof_10 : decode c_H_checkProof 10 = .ok (.aload_n 1, 1) := by decide +kernel
theorem d_H_checkProof_11 : decode c_H_checkProof 11 = .ok (.iload_n 2, 1) := by decide +kernel
theorem d_H_checkProof_12 : decode c_H_checkProof 12 = .ok (.invokevirtual 34, 3) := by decide +kernel
theorem d_H_checkProof_15 : decode c_H_checkProof 15 = .ok (.ifCond .eq 9, 3) := by decide +kernel
theorem d_H_checkProof_18 : decode c_H_checkProof 18 = .ok (.aload_n 0, 1) := by decide +kernel
theorem d_H_checkProof_19 : decode c_H_checkProof 19 = .ok (.aload_n 1, 1) := by decide +kernel
theorem d_H_checkProof_20 : decode c_H_checkProof 20 = .ok (.iload_n 2, 1) := by decide +kernel
theorem d_H_checkProof_21 : decode c_H_checkProof 21 = .ok (.invokevirtual 41, 3) := by decide +kernel
theorem d_H_checkProof_24 : decode c_H_checkProof 24 = .ok (.iinc 2 1, 3) := by decide +kernel
theorem d_H_checkProof_27 : decode c_H_checkProof 27 = .ok (.goto (-25), 3) := by decide +kernel
theorem d_H_checkProof_30 : decode c_H_checkProof 30 = .ok (.aload_n 1, 1) := by decide +kernel
theorem d_H_checkProof_31 : decode c_H_checkProof 31 = .ok (.invokevirtual 28, 3) := by decide +kernel
theorem d_H_checkProof_34 : decode c_H_checkProof 34 = .ok (.iconst 1, 1) := by decide +kernel
theorem d_H_checkProof_35 : decode c_H_checkProof 35 = .ok (.isub, 1) := by decide +kernel
theorem d_H_checkProof_36 : decode c_H_checkProof 36 = .ok (.istore_n 2, 1) := by decide +kernel
theorem d_H_checkProof_37 : decode c_H_checkProof 37 = .ok (.aload_n 1, 1) := by decide +kernel
theorem d_H_checkProof_38 : decode c_H_checkProof 38 = .ok (.iload_n 2, 1) := by decide +kernel
theorem d_H_checkProof_39 : decode c_H_checkProof 39 = .ok (.invokevirtual 34, 3) := by decide +kernel
theorem d_H_checkProof_42 : decode c_H_checkProof 42 = .ok (.ifCond .eq 11, 3) := by decide +kernel
theorem d_H_checkProof_45 : decode c_H_checkProof 45 = .ok (.aload_n 1, 1) := by decide +kernel
theorem d_H_checkProof_46 : decode c_H_checkProof 46 = .ok (.iload_n 2, 1) := by decide +kernel
theorem d_H_checkProof_47 : decode c_H_checkProof 47 = .ok (.invokevirtual 38, 3) := by decide +kernel
theorem d_H_checkProof_50 : decode c_H_checkProof 50 = .ok (.ifCond .eq 13, 3) := by decide +kernel
theorem d_H_checkProof_53 : decode c_H_checkProof 53 = .ok (.aload_n 0, 1) := by decide +kernel
theorem d_H_checkProof_54 : decode c_H_checkProof 54 = .ok (.dup, 1) := by decide +kernel
theorem d_H_checkProof_55 : decode c_H_checkProof 55 = .ok (.getfield 9, 3) := by decide +kernel
theorem d_H_checkProof_58 : decode c_H_checkProof 58 = .ok (.iconst 1, 1) := by decide +kernel
theorem d_H_checkProof_59 : decode c_H_checkProof 59 = .ok (.iadd, 1) := by decide +kernel
theorem d_H_checkProof_60 : decode c_H_checkProof 60 = .ok (.putfield 9, 3) := by decide +kernel
theorem d_H_checkProof_63 : decode c_H_checkProof 63 = .ok (.return_, 1) := by decide +kernel
theorem d_H_checkDerivation_0 : decode c_H_checkDerivation 0 = .ok (.aload_n 1, 1) := by decide +kernel
theorem d_H_checkDerivation_1 : decode c_H_checkDerivation 1 = .ok (.iload_n 2, 1) := by decide +kernel
theorem d_H_checkDerivation_2 : decode c_H_checkDerivation 2 = .ok (.invokevirtual 45, 3) := by decide +kernel
theorem d_H_checkDerivation_5 : decode c_H_checkDerivation 5 = .ok (.istore_n 3, 1) := by decide +kernel
theorem d_H_checkDerivation_6 : decode c_H_checkDerivation 6 = .ok (.aload_n 0, 1) := by decide +kernel
theorem d_H_checkDerivation_7 : decode c_H_checkDerivation 7 = .ok (.aload_n 1, 1) := by decide +kernel
theorem d_H_checkDerivation_8 : decode c_H_checkDerivation 8 = .ok (.iload_n 3, 1) := by decide +kernel
theorem d_H_checkDerivation_9 : decode c_H_checkDerivation 9 = .ok (.iload_n 2, 1) := by decide +kernel
theorem d_H_checkDerivation_10 : decode c_H_checkDerivation 10 = .ok (.invokevirtual 48, 3) := by decide +kernel
theorem d_H_checkDerivation_13 : decode c_H_checkDerivation 13 = .ok (.istore 4, 2) := by decide +kernel
theorem d_H_checkDerivation_15 : decode c_H_checkDerivation 15 = .ok (.iload_n 3, 1) := by decide +kernel
theorem d_H_checkDerivation_16 : decode c_H_checkDerivation 16 = .ok (.iconst 1, 1) := by decide +kernel
theorem d_H_checkDerivation_17 : decode c_H_checkDerivation 17 = .ok (.iadd, 1) := by decide +kernel
theorem d_H_checkDerivation_18 : decode c_H_checkDerivation 18 = .ok (.istore 5, 2) := by decide +kernel
theorem d_H_checkDerivation_20 : decode c_H_checkDerivation 20 = .ok (.iload 5, 2) := by decide +kernel
theorem d_H_checkDerivation_22 : decode c_H_checkDerivation 22 = .ok (.aload_n 1, 1) := by decide +kernel
theorem d_H_checkDerivation_23 : decode c_H_checkDerivation 23 = .ok (.iload_n 2, 1) := by decide +kernel
theorem d_H_checkDerivation_24 : decode c_H_checkDerivation 24 = .ok (.invokevirtual 52, 3) := by decide +kernel
theorem d_H_checkDerivation_27 : decode c_H_checkDerivation 27 = .ok (.if_icmp .ge 67, 3) := by decide +kernel
theorem d_H_checkDerivation_30 : decode c_H_checkDerivation 30 = .ok (.aload_n 0, 1) := by decide +kernel
theorem d_H_checkDerivation_31 : decode c_H_checkDerivation 31 = .ok (.aload_n 1, 1) := by decide +kernel
theorem d_H_checkDerivation_32 : decode c_H_checkDerivation 32 = .ok (.iload 5, 2) := by decide +kernel
theorem d_H_checkDerivation_34 : decode c_H_checkDerivation 34 = .ok (.iload_n 2, 1) := by decide +kernel
theorem d_H_checkDerivation_35 : decode c_H_checkDerivation 35 = .ok (.invokevirtual 48, 3) := by decide +kernel
theorem d_H_checkDerivation_38 : decode c_H_checkDerivation 38 = .ok (.istore 6, 2) := by decide +kernel
theorem d_H_checkDerivation_40 : decode c_H_checkDerivation 40 = .ok (.iload 4, 2) := by decide +kernel
theorem d_H_checkDerivation_42 : decode c_H_checkDerivation 42 = .ok (.iload 6, 2) := by decide +kernel
theorem d_H_checkDerivation_44 : decode c_H_checkDerivation 44 = .ok (.invokestatic 19, 3) := by decide +kernel
theorem d_H_checkDerivation_47 : decode c_H_checkDerivation 47 = .ok (.iand, 1) := by decide +kernel
theorem d_H_checkDerivation_48 : decode c_H_checkDerivation 48 = .ok (.istore 7, 2) := by decide +kernel
theorem d_H_checkDerivation_50 : decode c_H_checkDerivation 50 = .ok (.iload 7, 2) := by decide +kernel
theorem d_H_checkDerivation_52 : decode c_H_checkDerivation 52 = .ok (.invokestatic 55, 3) := by decide +kernel
theorem d_H_checkDerivation_55 : decode c_H_checkDerivation 55 = .ok (.ifCond .ne 13, 3) := by decide +kernel
theorem d_H_checkDerivation_58 : decode c_H_checkDerivation 58 = .ok (.aload_n 0, 1) := by decide +kernel
theorem d_H_checkDerivation_59 : decode c_H_checkDerivation 59 = .ok (.dup, 1) := by decide +kernel
theorem d_H_checkDerivation_60 : decode c_H_checkDerivation 60 = .ok (.getfield 9, 3) := by decide +kernel
theorem d_H_checkDerivation_63 : decode c_H_checkDerivation 63 = .ok (.iconst 1, 1) := by decide +kernel
theorem d_H_checkDerivation_64 : decode c_H_checkDerivation 64 = .ok (.iadd, 1) := by decide +kernel
theorem d_H_checkDerivation_65 : decode c_H_checkDerivation 65 = .ok (.putfield 9, 3) := by decide +kernel
theorem d_H_checkDerivation_68 : decode c_H_checkDerivation 68 = .ok (.iload 4, 2) := by decide +kernel
theorem d_H_checkDerivation_70 : decode c_H_checkDerivation 70 = .ok (.iload 7, 2) := by decide +kernel
theorem d_H_checkDerivation_72 : decode c_H_checkDerivation 72 = .ok (.iconst (-1), 1) := by decide +kernel
theorem d_H_checkDerivation_73 : decode c_H_checkDerivation 73 = .ok (.ixor, 1) := by decide +kernel
theorem d_H_checkDerivation_74 : decode c_H_checkDerivation 74 = .ok (.iand, 1) := by decide +kernel
theorem d_H_checkDerivation_75 : decode c_H_checkDerivation 75 = .ok (.iload 6, 2) := by decide +kernel
theorem d_H_checkDerivation_77 : decode c_H_checkDerivation 77 = .ok (.iload 7, 2) := by decide +kernel
theorem d_H_checkDerivation_79 : decode c_H_checkDerivation 79 = .ok (.invokestatic 19, 3) := by decide +kernel
theorem d_H_checkDerivation_82 : decode c_H_checkDerivation 82 = .ok (.iconst (-1), 1) := by decide +kernel
theorem d_H_checkDerivation_83 : decode c_H_checkDerivation 83 = .ok (.ixor, 1) := by decide +kernel
theorem d_H_checkDerivation_84 : decode c_H_checkDerivation 84 = .ok (.iand, 1) := by decide +kernel
theorem d_H_checkDerivation_85 : decode c_H_checkDerivation 85 = .ok (.ior, 1) := by decide +kernel
theorem d_H_checkDerivation_86 : decode c_H_checkDerivation 86 = .ok (.istore 4, 2) := by decide +kernel
theorem d_H_checkDerivation_88 : decode c_H_checkDerivation 88 = .ok (.iinc 5 1, 3) := by decide +kernel
theorem d_H_checkDerivation_91 : decode c_H_checkDerivation 91 = .ok (.goto (-71), 3) := by decide +kernel
theorem d_H_checkDerivation_94 : decode c_H_checkDerivation 94 = .ok (.iload 4, 2) := by decide +kernel
theorem d_H_checkDerivation_96 : decode c_H_checkDerivation 96 = .ok (.aload_n 1, 1) := by decide +kernel
theorem d_H_checkDerivation_97 : decode c_H_checkDerivation 97 = .ok (.iload_n 2, 1) := by decide +kernel
theorem d_H_checkDerivation_98 : decode c_H_checkDerivation 98 = .ok (.invokevirtual 38, 3) := by decide +kernel
theorem d_H_checkDerivation_101 : decode c_H_checkDerivation 101 = .ok (.if_icmp .eq 13, 3) := by decide +kernel
theorem d_H_checkDerivation_104 : decode c_H_checkDerivation 104 = .ok (.aload_n 0, 1) := by decide +kernel
theorem d_H_checkDerivation_105 : decode c_H_checkDerivation 105 = .ok (.dup, 1) := by decide +kernel
theorem d_H_checkDerivation_106 : decode c_H_checkDerivation 106 = .ok (.getfield 9, 3) := by decide +kernel
theorem d_H_checkDerivation_109 : decode c_H_checkDerivation 109 = .ok (.iconst 1, 1) := by decide +kernel
theorem d_H_checkDerivation_110 : decode c_H_checkDerivation 110 = .ok (.iadd, 1) := by decide +kernel
theorem d_H_checkDerivation_111 : decode c_H_checkDerivation 111 = .ok (.putfield 9, 3) := by decide +kernel
theorem d_H_checkDerivation_114 : decode c_H_checkDerivation 114 = .ok (.return_, 1) := by decide +kernel
theorem d_H_linkedClause_0 : decode c_H_linkedClause 0 = .ok (.iload_n 2, 1) := by decide +kernel
theorem d_H_linkedClause_1 : decode c_H_linkedClause 1 = .ok (.aload_n 1, 1) := by decide +kernel
theorem d_H_linkedClause_2 : decode c_H_linkedClause 2 = .ok (.iload_n 3, 1) := by decide +kernel
theorem d_H_linkedClause_3 : decode c_H_linkedClause 3 = .ok (.invokevirtual 52, 3) := by decide +kernel
theorem d_H_linkedClause_6 : decode c_H_linkedClause 6 = .ok (.if_icmp .ge 11, 3) := by decide +kernel
theorem d_H_linkedClause_9 : decode c_H_linkedClause 9 = .ok (.aload_n 1, 1) := by decide +kernel
theorem d_H_linkedClause_10 : decode c_H_linkedClause 10 = .ok (.iload_n 2, 1) := by decide +kernel
theorem d_H_linkedClause_11 : decode c_H_linkedClause 11 = .ok (.invokevirtual 58, 3) := by decide +kernel
theorem d_H_linkedClause_14 : decode c_H_linkedClause 14 = .ok (.goto 4, 3) := by decide +kernel
theorem d_H_linkedClause_17 : decode c_H_linkedClause 17 = .ok (.iconst (-1), 1) := by decide +kernel
theorem d_H_linkedClause_18 : decode c_H_linkedClause 18 = .ok (.istore 4, 2) := by decide +kernel
theorem d_H_linkedClause_20 : decode c_H_linkedClause 20 = .ok (.iload 4, 2) := by decide +kernel
theorem d_H_linkedClause_22 : decode c_H_linkedClause 22 = .ok (.ifCond .lt 9, 3) := by decide +kernel
theorem d_H_linkedClause_25 : decode c_H_linkedClause 25 = .ok (.iload 4, 2) := by decide +kernel
theorem d_H_linkedClause_27 : decode c_H_linkedClause 27 = .ok (.iload_n 3, 1) := by decide +kernel
theorem d_H_linkedClause_28 : decode c_H_linkedClause 28 = .ok (.if_icmp .lt 15, 3) := by decide +kernel
theorem d_H_linkedClause_31 : decode c_H_linkedClause 31 = .ok (.aload_n 0, 1) := by decide +kernel
theorem d_H_linkedClause_32 : decode c_H_linkedClause 32 = .ok (.dup, 1) := by decide +kernel
theorem d_H_linkedClause_33 : decode c_H_linkedClause 33 = .ok (.getfield 9, 3) := by decide +kernel
theorem d_H_linkedClause_36 : decode c_H_linkedClause 36 = .ok (.iconst 1, 1) := by decide +kernel
theorem d_H_linkedClause_37 : decode c_H_linkedClause 37 = .ok (.iadd, 1) := by decide +kernel
theorem d_H_linkedClause_38 : decode c_H_linkedClause 38 = .ok (.putfield 9, 3) := by decide +kernel
theorem d_H_linkedClause_41 : decode c_H_linkedClause 41 = .ok (.iconst 0, 1) := by decide +kernel
theorem d_H_linkedClause_42 : decode c_H_linkedClause 42 = .ok (.ireturn, 1) := by decide +kernel
theorem d_H_linkedClause_43 : decode c_H_linkedClause 43 = .ok (.aload_n 1, 1) := by decide +kernel
theorem d_H_linkedClause_44 : decode c_H_linkedClause 44 = .ok (.iload 4, 2) := by decide +kernel
theorem d_H_linkedClause_46 : decode c_H_linkedClause 46 = .ok (.invokevirtual 38, 3) := by decide +kernel
theorem d_H_linkedClause_49 : decode c_H_linkedClause 49 = .ok (.ireturn, 1) := by decide +kernel
theorem d_S_init_0 : decode c_S_init 0 = .ok (.aload_n 0, 1) := by decide +kernel
theorem d_S_init_1 : decode c_S_init 1 = .ok (.invokespecial 3, 3) := by decide +kernel
theorem d_S_init_4 : decode c_S_init 4 = .ok (.aload_n 0, 1) := by decide +kernel
theorem d_S_init_5 : decode c_S_init 5 = .ok (.bipush 10, 2) := by decide +kernel
theorem d_S_init_7 : decode c_S_init 7 = .ok (.newarray .int, 2) := by decide +kernel
theorem d_S_init_9 : decode c_S_init 9 = .ok (.putfield 9, 3) := by decide +kernel
theorem d_S_init_12 : decode c_S_init 12 = .ok (.aload_n 0, 1) := by decide +kernel
theorem d_S_init_13 : decode c_S_init 13 = .ok (.bipush 10, 2) := by decide +kernel
theorem d_S_init_15 : decode c_S_init 15 = .ok (.newarray .int, 2) := by decide +kernel
theorem d_S_init_17 : decode c_S_init 17 = .ok (.putfield 15, 3) := by decide +kernel
theorem d_S_init_20 : decode c_S_init 20 = .ok (.return_, 1) := by decide +kernel
theorem d_S_begin_0 : decode c_S_begin 0 = .ok (.aload_n 0, 1) := by decide +kernel
theorem d_S_begin_1 : decode c_S_begin 1 = .ok (.iconst 0, 1) := by decide +kernel
theorem d_S_begin_2 : decode c_S_begin 2 = .ok (.putfield 18, 3) := by decide +kernel
theorem d_S_begin_5 : decode c_S_begin 5 = .ok (.aload_n 0, 1) := by decide +kernel
theorem d_S_begin_6 : decode c_S_begin 6 = .ok (.iconst 0, 1) := by decide +kernel
theorem d_S_begin_7 : decode c_S_begin 7 = .ok (.putfield 22, 3) := by decide +kernel
theorem d_S_begin_10 : decode c_S_begin 10 = .ok (.return_, 1) := by decide +kernel
theorem d_S_held_0 : decode c_S_held 0 = .ok (.aload_n 0, 1) := by decide +kernel
theorem d_S_held_1 : decode c_S_held 1 = .ok (.getfield 22, 3) := by decide +kernel
theorem d_S_held_4 : decode c_S_held 4 = .ok (.ireturn, 1) := by decide +kernel
theorem d_S_findModel_0 : decode c_S_findModel 0 = .ok (.iconst 0, 1) := by decide +kernel
theorem d_S_findModel_1 : decode c_S_findModel 1 = .ok (.istore_n 3, 1) := by decide +kernel
theorem d_S_findModel_2 : decode c_S_findModel 2 = .ok (.iload_n 3, 1) := by decide +kernel
theorem d_S_findModel_3 : decode c_S_findModel 3 = .ok (.ldc 25, 2) := by decide +kernel
theorem d_S_findModel_5 : decode c_S_findModel 5 = .ok (.if_icmp .ge 52, 3) := by decide +kernel
theorem d_S_findModel_8 : decode c_S_findModel 8 = .ok (.aload_n 0, 1) := by decide +kernel
theorem d_S_findModel_9 : decode c_S_findModel 9 = .ok (.aload_n 1, 1) := by decide +kernel
theorem d_S_findModel_10 : decode c_S_findModel 10 = .ok (.invokevirtual 26, 3) := by decide +kernel
theorem d_S_findModel_13 : decode c_S_findModel 13 = .ok (.istore 4, 2) := by decide +kernel
theorem d_S_findModel_15 : decode c_S_findModel 15 = .ok (.iload 4, 2) := by decide +kernel
theorem d_S_findModel_17 : decode c_S_findModel 17 = .ok (.iconst (-1), 1) := by decide +kernel
theorem d_S_findModel_18 : decode c_S_findModel 18 = .ok (.if_icmp .ne 21, 3) := by decide +kernel
theorem d_S_findModel_21 : decode c_S_findModel 21 = .ok (.aload_n 0, 1) := by decide +kernel
theorem d_S_findModel_22 : decode c_S_findModel 22 = .ok (.getfield 18, 3) := by decide +kernel
theorem d_S_findModel_25 : decode c_S_findModel 25 = .ok (.iload_n 2, 1) := by decide +kernel
theorem d_S_findModel_26 : decode c_S_findModel 26 = .ok (.if_icmp .lt 5, 3) := by decide +kernel
theorem d_S_findModel_29 : decode c_S_findModel 29 = .ok (.iconst 1, 1) := by decide +kernel
theorem d_S_findModel_30 : decode c_S_findModel 30 = .ok (.ireturn, 1) := by decide +kernel
theorem d_S_findModel_31 : decode c_S_findModel 31 = .ok (.aload_n 0, 1) := by decide +kernel
theorem d_S_findModel_32 : decode c_S_findModel 32 = .ok (.iload_n 2, 1) := by decide +kernel
theorem d_S_findModel_33 : decode c_S_findModel 33 = .ok (.invokevirtual 30, 3) := by decide +kernel
theorem d_S_findModel_36 : decode c_S_findModel 36 = .ok (.goto 15, 3) := by decide +kernel
theorem d_S_findModel_39 : decode c_S_findModel 39 = .ok (.aload_n 0, 1) := by decide +kernel
theorem d_S_findModel_40 : decode c_S_findModel 40 = .ok (.aload_n 1, 1) := by decide +kernel
theorem d_S_findModel_41 : decode c_S_findModel 41 = .ok (.iload 4, 2) := by decide +kernel
theorem d_S_findModel_43 : decode c_S_findModel 43 = .ok (.invokevirtual 34, 3) := by decide +kernel
theorem d_S_findModel_46 : decode c_S_findModel 46 = .ok (.ifCond .ne 5, 3) := by decide +kernel
theorem d_S_findModel_49 : decode c_S_findModel 49 = .ok (.iconst 0, 1) := by decide +kernel
theorem d_S_findModel_50 : decode c_S_findModel 50 = .ok (.ireturn, 1) := by decide +kernel
theorem d_S_findModel_51 : decode c_S_findModel 51 = .ok (.iinc 3 1, 3) := by decide +kernel
theorem d_S_findModel_54 : decode c_S_findModel 54 = .ok (.goto (-52), 3) := by decide +kernel
theorem d_S_findModel_57 : decode c_S_findModel 57 = .ok (.iconst 0, 1) := by decide +kernel
theorem d_S_findModel_58 : decode c_S_findModel 58 = .ok (.ireturn, 1) := by decide +kernel
theorem d_S_propagate_0 : decode c_S_propagate 0 = .ok (.iconst 1, 1) := by decide +kernel
theorem d_S_propagate_1 : decode c_S_propagate 1 = .ok (.istore_n 2, 1) := by decide +kernel
theorem d_S_propagate_2 : decode c_S_propagate 2 = .ok (.iconst 0, 1) := by decide +kernel
theorem d_S_propagate_3 : decode c_S_propagate 3 = .ok (.istore_n 3, 1) := by decide +kernel
theorem d_S_propagate_4 : decode c_S_propagate 4 = .ok (.iload_n 2, 1) := by decide +kernel
theorem d_S_propagate_5 : decode c_S_propagate 5 = .ok (.ifCond .eq 52, 3) := by decide +kernel
theorem d_S_propagate_8 : decode c_S_propagate 8 = .ok (.iload_n 3, 1) := by decide +kernel
theorem d_S_propagate_9 : decode c_S_propagate 9 = .ok (.bipush 10, 2) := by decide +kernel
theorem d_S_propagate_11 : decode c_S_propagate 11 = .ok (.if_icmp .gt 46, 3) := by decide +kernel
theorem d_S_propagate_14 : decode c_S_propagate 14 = .ok (.aload_n 0, 1) := by decide +kernel
theorem d_S_propagate_15 : decode c_S_propagate 15 = .ok (.getfield 18, 3) := by decide +kernel
theorem d_S_propagate_18 : decode c_S_propagate 18 = .ok (.istore 4, 2) := by decide +kernel
theorem d_S_propagate_20 : decode c_S_propagate 20 = .ok (.aload_n 0, 1) := by decide +kernel
theorem d_S_propagate_21 : decode c_S_propagate 21 = .ok (.aload_n 1, 1) := by decide +kernel
theorem d_S_propagate_22 : decode c_S_propagate 22 = .ok (.invokevirtual 38, 3) := by decide +kernel
theorem d_S_propagate_25 : decode c_S_propagate 25 = .ok (.istore 5, 2) := by decide +kernel
theorem d_S_propagate_27 : decode c_S_propagate 27 = .ok (.iload 5, 2) := by decide +kernel
theorem d_S_propagate_29 : decode c_S_propagate 29 = .ok (.iconst (-1), 1) := by decide +kernel
theorem d_S_propagate_30 : decode c_S_propagate 30 = .ok (.if_icmp .eq 6, 3) := by decide +kernel
theorem d_S_propagate_33 : decode c_S_propagate 33 = .ok (.iload 5, 2) := by decide +kernel
theorem d_S_propagate_35 : decode c_S_propagate 35 = .ok (.ireturn, 1) := by decide +kernel
theorem d_S_propagate_36 : decode c_S_propagate 36 = .ok (.aload_n 0, 1) := by decide +kernel
theorem d_S_propagate_37 : decode c_S_propagate 37 = .ok (.getfield 18, 3) := by decide +kernel
theorem d_S_propagate_40 : decode c_S_propagate 40 = .ok (.iload 4, 2) := by decide +kernel
theorem d_S_propagate_42 : decode c_S_propagate 42 = .ok (.if_icmp .le 7, 3) := by decide +kernel
theorem d_S_propagate_45 : decode c_S_propagate 45 = .ok (.iconst 1, 1) := by decide +kernel
theorem d_S_propagate_46 : decode c_S_propagate 46 = .ok (.goto 4, 3) := by decide +kernel
theorem d_S_propagate_49 : decode c_S_propagate 49 = .ok (.iconst 0, 1) := by decide +kernel
theorem d_S_propagate_50 : decode c_S_propagate 50 = .ok (.istore_n 2, 1) := by decide +kernel
theorem d_S_propagate_51 : decode c_S_propagate 51 = .ok (.iinc 3 1, 3) := by decide +kernel
theorem d_S_propagate_54 : decode c_S_propagate 54 = .ok (.goto (-50), 3) := by decide +kernel
theorem d_S_propagate_57 : decode c_S_propagate 57 = .ok (.iconst (-1), 1) := by decide +kernel
theorem d_S_propagate_58 : decode c_S_propagate 58 = .ok (.ireturn, 1) := by decide +kernel
theorem d_S_sweep_0 : decode c_S_sweep 0 = .ok (.aload_n 1, 1) := by decide +kernel
theorem d_S_sweep_1 : decode c_S_sweep 1 = .ok (.invokevirtual 41, 3) := by decide +kernel
theorem d_S_sweep_4 : decode c_S_sweep 4 = .ok (.istore_n 2, 1) := by decide +kernel
theorem d_S_sweep_5 : decode c_S_sweep 5 = .ok (.iconst 0, 1) := by decide +kernel
theorem d_S_sweep_6 : decode c_S_sweep 6 = .ok (.istore_n 3, 1) := by decide +kernel
theorem d_S_sweep_7 : decode c_S_sweep 7 = .ok (.iload_n 3, 1) := by decide +kernel
theorem d_S_sweep_8 : decode c_S_sweep 8 = .ok (.iload_n 2, 1) := by decide +kernel
theorem d_S_sweep_9 : decode c_S_sweep 9 = .ok (.if_icmp .ge 62, 3) := by decide +kernel
theorem d_S_sweep_12 : decode c_S_sweep 12 = .ok (.aload_n 1, 1) := by decide +kernel
theorem d_S_sweep_13 : decode c_S_sweep 13 = .ok (.iload_n 3, 1) := by decide +kernel
theorem d_S_sweep_14 : decode c_S_sweep 14 = .ok (.invokevirtual 47, 3) := by decide +kernel
theorem d_S_sweep_17 : decode c_S_sweep 17 = .ok (.istore 4, 2) := by decide +kernel
theorem d_S_sweep_19 : decode c_S_sweep 19 = .ok (.iload 4, 2) := by decide +kernel
theorem d_S_sweep_21 : decode c_S_sweep 21 = .ok (.aload_n 0, 1) := by decide +kernel
theorem d_S_sweep_22 : decode c_S_sweep 22 = .ok (.getfield 22, 3) := by decide +kernel
theorem d_S_sweep_25 : decode c_S_sweep 25 = .ok (.iand, 1) := by decide +kernel
theorem d_S_sweep_26 : decode c_S_sweep 26 = .ok (.ifCond .ne 39, 3) := by decide +kernel
theorem d_S_sweep_29 : decode c_S_sweep 29 = .ok (.iload 4, 2) := by decide +kernel
theorem d_S_sweep_31 : decode c_S_sweep 31 = .ok (.aload_n 0, 1) := by decide +kernel
theorem d_S_sweep_32 : decode c_S_sweep 32 = .ok (.getfield 22, 3) := by decide +kernel
theorem d_S_sweep_35 : decode c_S_sweep 35 = .ok (.invokestatic 51, 3) := by decide +kernel
theorem d_S_sweep_38 : decode c_S_sweep 38 = .ok (.iconst (-1), 1) := by decide +kernel
theorem d_S_sweep_39 : decode c_S_sweep 39 = .ok (.ixor, 1) := by decide +kernel
theorem d_S_sweep_40 : decode c_S_sweep 40 = .ok (.iand, 1) := by decide +kernel
theorem d_S_sweep_41 : decode c_S_sweep 41 = .ok (.istore 5, 2) := by decide +kernel
theorem d_S_sweep_43 : decode c_S_sweep 43 = .ok (.iload 5, 2) := by decide +kernel
theorem d_S_sweep_45 : decode c_S_sweep 45 = .ok (.ifCond .ne 5, 3) := by decide +kernel
theorem d_S_sweep_48 : decode c_S_sweep 48 = .ok (.iload_n 3, 1) := by decide +kernel
theorem d_S_sweep_49 : decode c_S_sweep 49 = .ok (.ireturn, 1) := by decide +kernel
theorem d_S_sweep_50 : decode c_S_sweep 50 = .ok (.iload 5, 2) := by decide +kernel
theorem d_S_sweep_52 : decode c_S_sweep 52 = .ok (.invokestatic 56, 3) := by decide +kernel
theorem d_S_sweep_55 : decode c_S_sweep 55 = .ok (.ifCond .eq 10, 3) := by decide +kernel
theorem d_S_sweep_58 : decode c_S_sweep 58 = .ok (.aload_n 0, 1) := by decide +kernel
theorem d_S_sweep_59 : decode c_S_sweep 59 = .ok (.iload 5, 2) := by decide +kernel
theorem d_S_sweep_61 : decode c_S_sweep 61 = .ok (.iload_n 3, 1) := by decide +kernel
theorem d_S_sweep_62 : decode c_S_sweep 62 = .ok (.invokevirtual 60, 3) := by decide +kernel
theorem d_S_sweep_65 : decode c_S_sweep 65 = .ok (.iinc 3 1, 3) := by decide +kernel
theorem d_S_sweep_68 : decode c_S_sweep 68 = .ok (.goto (-61), 3) := by decide +kernel
theorem d_S_sweep_71 : decode c_S_sweep 71 = .ok (.iconst (-1), 1) := by decide +kernel
theorem d_S_sweep_72 : decode c_S_sweep 72 = .ok (.ireturn, 1) := by decide +kernel
theorem d_S_decide_0 : decode c_S_decide 0 = .ok (.iload_n 1, 1) := by decide +kernel
theorem d_S_decide_1 : decode c_S_decide 1 = .ok (.invokestatic 64, 3) := by decide +kernel
theorem d_S_decide_4 : decode c_S_decide 4 = .ok (.aload_n 0, 1) := by decide +kernel
theorem d_S_decide_5 : decode c_S_decide 5 = .ok (.getfield 22, 3) := by decide +kernel
theorem d_S_decide_8 : decode c_S_decide 8 = .ok (.aload_n 0, 1) := by decide +kernel
theorem d_S_decide_9 : decode c_S_decide 9 = .ok (.getfield 22, 3) := by decide +kernel
theorem d_S_decide_12 : decode c_S_decide 12 = .ok (.invokestatic 51, 3) := by decide +kernel
theorem d_S_decide_15 : decode c_S_decide 15 = .ok (.ior, 1) := by decide +kernel
theorem d_S_decide_16 : decode c_S_decide 16 = .ok (.iconst (-1), 1) := by decide +kernel
theorem d_S_decide_17 : decode c_S_decide 17 = .ok (.ixor, 1) := by decide +kernel
theorem d_S_decide_18 : decode c_S_decide 18 = .ok (.iand, 1) := by decide +kernel
theorem d_S_decide_19 : decode c_S_decide 19 = .ok (.istore_n 2, 1) := by decide +kernel
theorem d_S_decide_20 : decode c_S_decide 20 = .ok (.aload_n 0, 1) := by decide +kernel
theorem d_S_decide_21 : decode c_S_decide 21 = .ok (.iload_n 2, 1) := by decide +kernel
theorem d_S_decide_22 : decode c_S_decide 22 = .ok (.iload_n 2, 1) := by decide +kernel
theorem d_S_decide_23 : decode c_S_decide 23 = .ok (.ineg, 1) := by decide +kernel
theorem d_S_decide_24 : decode c_S_decide 24 = .ok (.iand, 1) := by decide +kernel
theorem d_S_decide_25 : decode c_S_decide 25 = .ok (.invokestatic 51, 3) := by decide +kernel
theorem d_S_decide_28 : decode c_S_decide 28 = .ok (.iconst (-1), 1) := by decide +kernel
theorem d_S_decide_29 : decode c_S_decide 29 = .ok (.invokevirtual 60, 3) := by decide +kernel
theorem d_S_decide_32 : decode c_S_decide 32 = .ok (.return_, 1) := by decide +kernel
theorem d_S_hold_0 : decode c_S_hold 0 = .ok (.aload_n 0, 1) := by decide +kernel
theorem d_S_hold_1 : decode c_S_hold 1 = .ok (.getfield 18, 3) := by decide +kernel
theorem d_S_hold_4 : decode c_S_hold 4 = .ok (.aload_n 0, 1) := by decide +kernel
theorem d_S_hold_5 : decode c_S_hold 5 = .ok (.getfield 9, 3) := by decide +kernel
theorem d_S_hold_8 : decode c_S_hold 8 = .ok (.arraylength, 1) := by decide +kernel
theorem d_S_hold_9 : decode c_S_hold 9 = .ok (.if_icmp .ge 43, 3) := by decide +kernel
theorem d_S_hold_12 : decode c_S_hold 12 = .ok (.aload_n 0, 1) := by decide +kernel
theorem d_S_hold_13 : decode c_S_hold 13 = .ok (.getfield 9, 3) := by decide +kernel
theorem d_S_hold_16 : decode c_S_hold 16 = .ok (.aload_n 0, 1) := by decide +kernel
theorem d_S_hold_17 : decode c_S_hold 17 = .ok (.getfield 18, 3) := by decide +kernel
theorem d_S_hold_20 : decode c_S_hold 20 = .ok (.iload_n 1, 1) := by decide +kernel
theorem d_S_hold_21 : decode c_S_hold 21 = .ok (.iastore, 1) := by decide +kernel
theorem d_S_hold_22 : decode c_S_hold 22 = .ok (.aload_n 0, 1) := by decide +kernel
theorem d_S_hold_23 : decode c_S_hold 23 = .ok (.getfield 15, 3) := by decide +kernel
theorem d_S_hold_26 : decode c_S_hold 26 = .ok (.aload_n 0, 1) := by decide +kernel
theorem d_S_hold_27 : decode c_S_hold 27 = .ok (.getfield 18, 3) := by decide +kernel
theorem d_S_hold_30 : decode c_S_hold 30 = .ok (.iload_n 2, 1) := by decide +kernel
theorem d_S_hold_31 : decode c_S_hold 31 = .ok (.iastore, 1) := by decide +kernel
theorem d_S_hold_32 : decode c_S_hold 32 = .ok (.aload_n 0, 1) := by decide +kernel
theorem d_S_hold_33 : decode c_S_hold 33 = .ok (.dup, 1) := by decide +kernel
theorem d_S_hold_34 : decode c_S_hold 34 = .ok (.getfield 18, 3) := by decide +kernel
theorem d_S_hold_37 : decode c_S_hold 37 = .ok (.iconst 1, 1) := by decide +kernel
theorem d_S_hold_38 : decode c_S_hold 38 = .ok (.iadd, 1) := by decide +kernel
theorem d_S_hold_39 : decode c_S_hold 39 = .ok (.putfield 18, 3) := by decide +kernel
theorem d_S_hold_42 : decode c_S_hold 42 = .ok (.aload_n 0, 1) := by decide +kernel
theorem d_S_hold_43 : decode c_S_hold 43 = .ok (.dup, 1) := by decide +kernel
theorem d_S_hold_44 : decode c_S_hold 44 = .ok (.getfield 22, 3) := by decide +kernel
theorem d_S_hold_47 : decode c_S_hold 47 = .ok (.iload_n 1, 1) := by decide +kernel
theorem d_S_hold_48 : decode c_S_hold 48 = .ok (.ior, 1) := by decide +kernel
theorem d_S_hold_49 : decode c_S_hold 49 = .ok (.putfield 22, 3) := by decide +kernel
theorem d_S_hold_52 : decode c_S_hold 52 = .ok (.return_, 1) := by decide +kernel
theorem d_S_learn_0 : decode c_S_learn 0 = .ok (.aload_n 0, 1) := by decide +kernel
theorem d_S_learn_1 : decode c_S_learn 1 = .ok (.invokevirtual 67, 3) := by decide +kernel
theorem d_S_learn_4 : decode c_S_learn 4 = .ok (.istore_n 3, 1) := by decide +kernel
theorem d_S_learn_5 : decode c_S_learn 5 = .ok (.aload_n 0, 1) := by decide +kernel
theorem d_S_learn_6 : decode c_S_learn 6 = .ok (.iload_n 3, 1) := by decide +kernel
theorem d_S_learn_7 : decode c_S_learn 7 = .ok (.invokevirtual 70, 3) := by decide +kernel
theorem d_S_learn_10 : decode c_S_learn 10 = .ok (.istore 4, 2) := by decide +kernel
theorem d_S_learn_12 : decode c_S_learn 12 = .ok (.aload_n 1, 1) := by decide +kernel
theorem d_S_learn_13 : decode c_S_learn 13 = .ok (.iload_n 2, 1) := by decide +kernel
theorem d_S_learn_14 : decode c_S_learn 14 = .ok (.invokevirtual 47, 3) := by decide +kernel
theorem d_S_learn_17 : decode c_S_learn 17 = .ok (.istore 5, 2) := by decide +kernel
theorem d_S_learn_19 : decode c_S_learn 19 = .ok (.aload_n 1, 1) := by decide +kernel
theorem d_S_learn_20 : decode c_S_learn 20 = .ok (.iload_n 2, 1) := by decide +kernel
theorem d_S_learn_21 : decode c_S_learn 21 = .ok (.invokevirtual 73, 3) := by decide +kernel
theorem d_S_learn_24 : decode c_S_learn 24 = .ok (.aload_n 0, 1) := by decide +kernel
theorem d_S_learn_25 : decode c_S_learn 25 = .ok (.getfield 18, 3) := by decide +kernel
theorem d_S_learn_28 : decode c_S_learn 28 = .ok (.iconst 1, 1) := by decide +kernel
theorem d_S_learn_29 : decode c_S_learn 29 = .ok (.isub, 1) := by decide +kernel
theorem d_S_learn_30 : decode c_S_learn 30 = .ok (.istore 6, 2) := by decide +kernel
theorem d_S_learn_32 : decode c_S_learn 32 = .ok (.iload 6, 2) := by decide +kernel
theorem d_S_learn_34 : decode c_S_learn 34 = .ok (.iload_n 3, 1) := by decide +kernel
theorem d_S_learn_35 : decode c_S_learn 35 = .ok (.if_icmp .le 90, 3) := by decide +kernel
theorem d_S_learn_38 : decode c_S_learn 38 = .ok (.iload_n 3, 1) := by decide +kernel
theorem d_S_learn_39 : decode c_S_learn 39 = .ok (.iconst (-1), 1) := by decide +kernel
theorem d_S_learn_40 : decode c_S_learn 40 = .ok (.if_icmp .eq 17, 3) := by decide +kernel
theorem d_S_learn_43 : decode c_S_learn 43 = .ok (.iload 5, 2) := by decide +kernel
theorem d_S_learn_45 : decode c_S_learn 45 = .ok (.iload 4, 2) := by decide +kernel
theorem d_S_learn_47 : decode c_S_learn 47 = .ok (.iand, 1) := by decide +kernel
theorem d_S_learn_48 : decode c_S_learn 48 = .ok (.invokestatic 56, 3) := by decide +kernel
theorem d_S_learn_51 : decode c_S_learn 51 = .ok (.ifCond .eq 6, 3) := by decide +kernel
theorem d_S_learn_54 : decode c_S_learn 54 = .ok (.goto 71, 3) := by decide +kernel
theorem d_S_learn_57 : decode c_S_learn 57 = .ok (.aload_n 0, 1) := by decide +kernel
theorem d_S_learn_58 : decode c_S_learn 58 = .ok (.getfield 9, 3) := by decide +kernel
theorem d_S_learn_61 : decode c_S_learn 61 = .ok (.iload 6, 2) := by decide +kernel
theorem d_S_learn_63 : decode c_S_learn 63 = .ok (.iaload, 1) := by decide +kernel
theorem d_S_learn_64 : decode c_S_learn 64 = .ok (.invokestatic 51, 3) := by decide +kernel
theorem d_S_learn_67 : decode c_S_learn 67 = .ok (.istore 7, 2) := by decide +kernel
theorem d_S_learn_69 : decode c_S_learn 69 = .ok (.iload 5, 2) := by decide +kernel
theorem d_S_learn_71 : decode c_S_learn 71 = .ok (.iload 7, 2) := by decide +kernel
theorem d_S_learn_73 : decode c_S_learn 73 = .ok (.iand, 1) := by decide +kernel
theorem d_S_learn_74 : decode c_S_learn 74 = .ok (.ifCond .eq 45, 3) := by decide +kernel
theorem d_S_learn_77 : decode c_S_learn 77 = .ok (.iload 5, 2) := by decide +kernel
theorem d_S_learn_79 : decode c_S_learn 79 = .ok (.iload 7, 2) := by decide +kernel
theorem d_S_learn_81 : decode c_S_learn 81 = .ok (.iconst (-1), 1) := by decide +kernel
theorem d_S_learn_82 : decode c_S_learn 82 = .ok (.ixor, 1) := by decide +kernel
theorem d_S_learn_83 : decode c_S_learn 83 = .ok (.iand, 1) := by decide +kernel
theorem d_S_learn_84 : decode c_S_learn 84 = .ok (.aload_n 1, 1) := by decide +kernel
theorem d_S_learn_85 : decode c_S_learn 85 = .ok (.aload_n 0, 1) := by decide +kernel
theorem d_S_learn_86 : decode c_S_learn 86 = .ok (.getfield 15, 3) := by decide +kernel
theorem d_S_learn_89 : decode c_S_learn 89 = .ok (.iload 6, 2) := by decide +kernel
theorem d_S_learn_91 : decode c_S_learn 91 = .ok (.iaload, 1) := by decide +kernel
theorem d_S_learn_92 : decode c_S_learn 92 = .ok (.invokevirtual 47, 3) := by decide +kernel
theorem d_S_learn_95 : decode c_S_learn 95 = .ok (.aload_n 0, 1) := by decide +kernel
theorem d_S_learn_96 : decode c_S_learn 96 = .ok (.getfield 9, 3) := by decide +kernel
theorem d_S_learn_99 : decode c_S_learn 99 = .ok (.iload 6, 2) := by decide +kernel
theorem d_S_learn_101 : decode c_S_learn 101 = .ok (.iaload, 1) := by decide +kernel
theorem d_S_learn_102 : decode c_S_learn 102 = .ok (.iconst (-1), 1) := by decide +kernel
theorem d_S_learn_103 : decode c_S_learn 103 = .ok (.ixor, 1) := by decide +kernel
theorem d_S_learn_104 : decode c_S_learn 104 = .ok (.iand, 1) := by decide +kernel
theorem d_S_learn_105 : decode c_S_learn 105 = .ok (.ior, 1) := by decide +kernel
theorem d_S_learn_106 : decode c_S_learn 106 = .ok (.istore 5, 2) := by decide +kernel
theorem d_S_learn_108 : decode c_S_learn 108 = .ok (.aload_n 1, 1) := by decide +kernel
theorem d_S_learn_109 : decode c_S_learn 109 = .ok (.aload_n 0, 1) := by decide +kernel
theorem d_S_learn_110 : decode c_S_learn 110 = .ok (.getfield 15, 3) := by decide +kernel
theorem d_S_learn_113 : decode c_S_learn 113 = .ok (.iload 6, 2) := by decide +kernel
theorem d_S_learn_115 : decode c_S_learn 115 = .ok (.iaload, 1) := by decide +kernel
theorem d_S_learn_116 : decode c_S_learn 116 = .ok (.invokevirtual 73, 3) := by decide +kernel
theorem d_S_learn_119 : decode c_S_learn 119 = .ok (.iinc 6 (-1), 3) := by decide +kernel
theorem d_S_learn_122 : decode c_S_learn 122 = .ok (.goto (-90), 3) := by decide +kernel
theorem d_S_learn_125 : decode c_S_learn 125 = .ok (.aload_n 1, 1) := by decide +kernel
theorem d_S_learn_126 : decode c_S_learn 126 = .ok (.iload 5, 2) := by decide +kernel
theorem d_S_learn_128 : decode c_S_learn 128 = .ok (.invokevirtual 76, 3) := by decide +kernel
theorem d_S_learn_131 : decode c_S_learn 131 = .ok (.aload_n 0, 1) := by decide +kernel
theorem d_S_learn_132 : decode c_S_learn 132 = .ok (.aload_n 0, 1) := by decide +kernel
theorem d_S_learn_133 : decode c_S_learn 133 = .ok (.iload 5, 2) := by decide +kernel
theorem d_S_learn_135 : decode c_S_learn 135 = .ok (.iload_n 3, 1) := by decide +kernel
theorem d_S_learn_136 : decode c_S_learn 136 = .ok (.invokevirtual 79, 3) := by decide +kernel
theorem d_S_learn_139 : decode c_S_learn 139 = .ok (.invokevirtual 83, 3) := by decide +kernel
theorem d_S_learn_142 : decode c_S_learn 142 = .ok (.iload 5, 2) := by decide +kernel
theorem d_S_learn_144 : decode c_S_learn 144 = .ok (.ireturn, 1) := by decide +kernel
theorem d_S_latestDecision_0 : decode c_S_latestDecision 0 = .ok (.aload_n 0, 1) := by decide +kernel
theorem d_S_latestDecision_1 : decode c_S_latestDecision 1 = .ok (.getfield 18, 3) := by decide +kernel
theorem d_S_latestDecision_4 : decode c_S_latestDecision 4 = .ok (.iconst 1, 1) := by decide +kernel
theorem d_S_latestDecision_5 : decode c_S_latestDecision 5 = .ok (.isub, 1) := by decide +kernel
theorem d_S_latestDecision_6 : decode c_S_latestDecision 6 = .ok (.istore_n 1, 1) := by decide +kernel
theorem d_S_latestDecision_7 : decode c_S_latestDecision 7 = .ok (.iload_n 1, 1) := by decide +kernel
theorem d_S_latestDecision_8 : decode c_S_latestDecision 8 = .ok (.ifCond .lt 19, 3) := by decide +kernel
theorem d_S_latestDecision_11 : decode c_S_latestDecision 11 = .ok (.aload_n 0, 1) := by decide +kernel
theorem d_S_latestDecision_12 : decode c_S_latestDecision 12 = .ok (.getfield 15, 3) := by decide +kernel
theorem d_S_latestDecision_15 : decode c_S_latestDecision 15 = .ok (.iload_n 1, 1) := by decide +kernel
theorem d_S_latestDecision_16 : decode c_S_latestDecision 16 = .ok (.iaload, 1) := by decide +kernel
theorem d_S_latestDecision_17 : decode c_S_latestDecision 17 = .ok (.iconst (-1), 1) := by decide +kernel
theorem d_S_latestDecision_18 : decode c_S_latestDecision 18 = .ok (.if_icmp .eq 9, 3) := by decide +kernel
theorem d_S_latestDecision_21 : decode c_S_latestDecision 21 = .ok (.iinc 1 (-1), 3) := by decide +kernel
theorem d_S_latestDecision_24 : decode c_S_latestDecision 24 = .ok (.goto (-17), 3) := by decide +kernel
theorem d_S_latestDecision_27 : decode c_S_latestDecision 27 = .ok (.iload_n 1, 1) := by decide +kernel
theorem d_S_latestDecision_28 : decode c_S_latestDecision 28 = .ok (.ireturn, 1) := by decide +kernel
theorem d_S_deniedFrom_0 : decode c_S_deniedFrom 0 = .ok (.iconst 0, 1) := by decide +kernel
theorem d_S_deniedFrom_1 : decode c_S_deniedFrom 1 = .ok (.istore_n 2, 1) := by decide +kernel
theorem d_S_deniedFrom_2 : decode c_S_deniedFrom 2 = .ok (.iload_n 1, 1) := by decide +kernel
theorem d_S_deniedFrom_3 : decode c_S_deniedFrom 3 = .ok (.iconst 0, 1) := by decide +kernel
theorem d_S_deniedFrom_4 : decode c_S_deniedFrom 4 = .ok (.invokestatic 86, 3) := by decide +kernel
theorem d_S_deniedFrom_7 : decode c_S_deniedFrom 7 = .ok (.istore_n 3, 1) := by decide +kernel
theorem d_S_deniedFrom_8 : decode c_S_deniedFrom 8 = .ok (.iload_n 3, 1) := by decide +kernel
theorem d_S_deniedFrom_9 : decode c_S_deniedFrom 9 = .ok (.aload_n 0, 1) := by decide +kernel
theorem d_S_deniedFrom_10 : decode c_S_deniedFrom 10 = .ok (.getfield 18, 3) := by decide +kernel
theorem d_S_deniedFrom_13 : decode c_S_deniedFrom 13 = .ok (.if_icmp .ge 18, 3) := by decide +kernel
theorem d_S_deniedFrom_16 : decode c_S_deniedFrom 16 = .ok (.iload_n 2, 1) := by decide +kernel
theorem d_S_deniedFrom_17 : decode c_S_deniedFrom 17 = .ok (.aload_n 0, 1) := by decide +kernel
theorem d_S_deniedFrom_18 : decode c_S_deniedFrom 18 = .ok (.getfield 9, 3) := by decide +kernel
theorem d_S_deniedFrom_21 : decode c_S_deniedFrom 21 = .ok (.iload_n 3, 1) := by decide +kernel
theorem d_S_deniedFrom_22 : decode c_S_deniedFrom 22 = .ok (.iaload, 1) := by decide +kernel
theorem d_S_deniedFrom_23 : decode c_S_deniedFrom 23 = .ok (.ior, 1) := by decide +kernel
theorem d_S_deniedFrom_24 : decode c_S_deniedFrom 24 = .ok (.istore_n 2, 1) := by decide +kernel
theorem d_S_deniedFrom_25 : decode c_S_deniedFrom 25 = .ok (.iinc 3 1, 3) := by decide +kernel
theorem d_S_deniedFrom_28 : decode c_S_deniedFrom 28 = .ok (.goto (-20), 3) := by decide +kernel
theorem d_S_deniedFrom_31 : decode c_S_deniedFrom 31 = .ok (.iload_n 2, 1) := by decide +kernel
theorem d_S_deniedFrom_32 : decode c_S_deniedFrom 32 = .ok (.invokestatic 51, 3) := by decide +kernel
theorem d_S_deniedFrom_35 : decode c_S_deniedFrom 35 = .ok (.ireturn, 1) := by decide +kernel
theorem d_S_jumpTarget_0 : decode c_S_jumpTarget 0 = .ok (.iload_n 2, 1) := by decide +kernel
theorem d_S_jumpTarget_1 : decode c_S_jumpTarget 1 = .ok (.iconst 0, 1) := by decide +kernel
theorem d_S_jumpTarget_2 : decode c_S_jumpTarget 2 = .ok (.invokestatic 86, 3) := by decide +kernel
theorem d_S_jumpTarget_5 : decode c_S_jumpTarget 5 = .ok (.istore_n 3, 1) := by decide +kernel
theorem d_S_jumpTarget_6 : decode c_S_jumpTarget 6 = .ok (.iload_n 3, 1) := by decide +kernel
theorem d_S_jumpTarget_7 : decode c_S_jumpTarget 7 = .ok (.iconst 1, 1) := by decide +kernel
theorem d_S_jumpTarget_8 : decode c_S_jumpTarget 8 = .ok (.isub, 1) := by decide +kernel
theorem d_S_jumpTarget_9 : decode c_S_jumpTarget 9 = .ok (.istore 4, 2) := by decide +kernel
theorem d_S_jumpTarget_11 : decode c_S_jumpTarget 11 = .ok (.iload 4, 2) := by decide +kernel
theorem d_S_jumpTarget_13 : decode c_S_jumpTarget 13 = .ok (.ifCond .lt 41, 3) := by decide +kernel
theorem d_S_jumpTarget_16 : decode c_S_jumpTarget 16 = .ok (.iload_n 1, 1) := by decide +kernel
theorem d_S_jumpTarget_17 : decode c_S_jumpTarget 17 = .ok (.aload_n 0, 1) := by decide +kernel
theorem d_S_jumpTarget_18 : decode c_S_jumpTarget 18 = .ok (.getfield 9, 3) := by decide +kernel
theorem d_S_jumpTarget_21 : decode c_S_jumpTarget 21 = .ok (.iload 4, 2) := by decide +kernel
theorem d_S_jumpTarget_23 : decode c_S_jumpTarget 23 = .ok (.iaload, 1) := by decide +kernel
theorem d_S_jumpTarget_24 : decode c_S_jumpTarget 24 = .ok (.invokestatic 51, 3) := by decide +kernel
theorem d_S_jumpTarget_27 : decode c_S_jumpTarget 27 = .ok (.iand, 1) := by decide +kernel
theorem d_S_jumpTarget_28 : decode c_S_jumpTarget 28 = .ok (.ifCond .eq 6, 3) := by decide +kernel
theorem d_S_jumpTarget_31 : decode c_S_jumpTarget 31 = .ok (.goto 23, 3) := by decide +kernel
theorem d_S_jumpTarget_34 : decode c_S_jumpTarget 34 = .ok (.aload_n 0, 1) := by decide +kernel
theorem d_S_jumpTarget_35 : decode c_S_jumpTarget 35 = .ok (.getfield 15, 3) := by decide +kernel
theorem d_S_jumpTarget_38 : decode c_S_jumpTarget 38 = .ok (.iload 4, 2) := by decide +kernel
theorem d_S_jumpTarget_40 : decode c_S_jumpTarget 40 = .ok (.iaload, 1) := by decide +kernel
theorem d_S_jumpTarget_41 : decode c_S_jumpTarget 41 = .ok (.iconst (-1), 1) := by decide +kernel
theorem d_S_jumpTarget_42 : decode c_S_jumpTarget 42 = .ok (.if_icmp .ne 6, 3) := by decide +kernel
theorem d_S_jumpTarget_45 : decode c_S_jumpTarget 45 = .ok (.iload 4, 2) := by decide +kernel
theorem d_S_jumpTarget_47 : decode c_S_jumpTarget 47 = .ok (.istore_n 3, 1) := by decide +kernel
theorem d_S_jumpTarget_48 : decode c_S_jumpTarget 48 = .ok (.iinc 4 (-1), 3) := by decide +kernel
theorem d_S_jumpTarget_51 : decode c_S_jumpTarget 51 = .ok (.goto (-40), 3) := by decide +kernel
theorem d_S_jumpTarget_54 : decode c_S_jumpTarget 54 = .ok (.iload_n 3, 1) := by decide +kernel
theorem d_S_jumpTarget_55 : decode c_S_jumpTarget 55 = .ok (.ireturn, 1) := by decide +kernel
theorem d_S_cut_0 : decode c_S_cut 0 = .ok (.aload_n 0, 1) := by decide +kernel
theorem d_S_cut_1 : decode c_S_cut 1 = .ok (.getfield 18, 3) := by decide +kernel
theorem d_S_cut_4 : decode c_S_cut 4 = .ok (.iconst 1, 1) := by decide +kernel
theorem d_S_cut_5 : decode c_S_cut 5 = .ok (.isub, 1) := by decide +kernel
theorem d_S_cut_6 : decode c_S_cut 6 = .ok (.istore_n 2, 1) := by decide +kernel
theorem d_S_cut_7 : decode c_S_cut 7 = .ok (.iload_n 2, 1) := by decide +kernel
theorem d_S_cut_8 : decode c_S_cut 8 = .ok (.iload_n 1, 1) := by decide +kernel
theorem d_S_cut_9 : decode c_S_cut 9 = .ok (.if_icmp .lt 30, 3) := by decide +kernel
theorem d_S_cut_12 : decode c_S_cut 12 = .ok (.iload_n 2, 1) := by decide +kernel
theorem d_S_cut_13 : decode c_S_cut 13 = .ok (.ifCond .lt 26, 3) := by decide +kernel
theorem d_S_cut_16 : decode c_S_cut 16 = .ok (.aload_n 0, 1) := by decide +kernel
theorem d_S_cut_17 : decode c_S_cut 17 = .ok (.dup, 1) := by decide +kernel
theorem d_S_cut_18 : decode c_S_cut 18 = .ok (.getfield 22, 3) := by decide +kernel
theorem d_S_cut_21 : decode c_S_cut 21 = .ok (.aload_n 0, 1) := by decide +kernel
theorem d_S_cut_22 : decode c_S_cut 22 = .ok (.getfield 9, 3) := by decide +kernel
theorem d_S_cut_25 : decode c_S_cut 25 = .ok (.iload_n 2, 1) := by decide +kernel
theorem d_S_cut_26 : decode c_S_cut 26 = .ok (.iaload, 1) := by decide +kernel
theorem d_S_cut_27 : decode c_S_cut 27 = .ok (.iconst (-1), 1) := by decide +kernel
theorem d_S_cut_28 : decode c_S_cut 28 = .ok (.ixor, 1) := by decide +kernel
theorem d_S_cut_29 : decode c_S_cut 29 = .ok (.iand, 1) := by decide +kernel
theorem d_S_cut_30 : decode c_S_cut 30 = .ok (.putfield 22, 3) := by decide +kernel
theorem d_S_cut_33 : decode c_S_cut 33 = .ok (.iinc 2 (-1), 3) := by decide +kernel
theorem d_S_cut_36 : decode c_S_cut 36 = .ok (.goto (-29), 3) := by decide +kernel
theorem d_S_cut_39 : decode c_S_cut 39 = .ok (.aload_n 0, 1) := by decide +kernel
theorem d_S_cut_40 : decode c_S_cut 40 = .ok (.aload_n 0, 1) := by decide +kernel
theorem d_S_cut_41 : decode c_S_cut 41 = .ok (.getfield 18, 3) := by decide +kernel
theorem d_S_cut_44 : decode c_S_cut 44 = .ok (.iload_n 1, 1) := by decide +kernel
theorem d_S_cut_45 : decode c_S_cut 45 = .ok (.invokestatic 91, 3) := by decide +kernel
theorem d_S_cut_48 : decode c_S_cut 48 = .ok (.putfield 18, 3) := by decide +kernel
theorem d_S_cut_51 : decode c_S_cut 51 = .ok (.return_, 1) := by decide +kernel
end
section
/-! decode rows, by program -/
theorem d_C_init_0 : decode c_C_init 0 = .ok (.aload_n 0, 1) := by decide +kernel
theorem d_C_init_1 : decode c_C_init 1 = .ok (.invokespecial 1, 3) := by decide +kernel
theorem d_C_init_4 : decode c_C_init 4 = .ok (.aload_n 0, 1) := by decide +kernel
theorem d_C_init_5 : decode c_C_init 5 = .ok (.new 7, 3) := by decide +kernel
theorem d_C_init_8 : decode c_C_init 8 = .ok (.dup, 1) := by decide +kernel
theorem d_C_init_9 : decode c_C_init 9 = .ok (.invokespecial 9, 3) := by decide +kernel
theorem d_C_init_12 : decode c_C_init 12 = .ok (.putfield 10, 3) := by decide +kernel
theorem d_C_init_15 : decode c_C_init 15 = .ok (.aload_n 0, 1) := by decide +kernel
theorem d_C_init_16 : decode c_C_init 16 = .ok (.new 16, 3) := by decide +kernel
theorem d_C_init_19 : decode c_C_init 19 = .ok (.dup, 1) := by decide +kernel
theorem d_C_init_20 : decode c_C_init 20 = .ok (.invokespecial 18, 3) := by decide +kernel
theorem d_C_init_23 : decode c_C_init 23 = .ok (.putfield 19, 3) := by decide +kernel
theorem d_C_init_26 : decode c_C_init 26 = .ok (.aload_n 0, 1) := by decide +kernel
theorem d_C_init_27 : decode c_C_init 27 = .ok (.new 23, 3) := by decide +kernel
theorem d_C_init_30 : decode c_C_init 30 = .ok (.dup, 1) := by decide +kernel
theorem d_C_init_31 : decode c_C_init 31 = .ok (.invokespecial 25, 3) := by decide +kernel
theorem d_C_init_34 : decode c_C_init 34 = .ok (.putfield 26, 3) := by decide +kernel
theorem d_C_init_37 : decode c_C_init 37 = .ok (.aload_n 0, 1) := by decide +kernel
theorem d_C_init_38 : decode c_C_init 38 = .ok (.bipush 10, 2) := by decide +kernel
theorem d_C_init_40 : decode c_C_init 40 = .ok (.newarray .int, 2) := by decide +kernel
theorem d_C_init_42 : decode c_C_init 42 = .ok (.putfield 30, 3) := by decide +kernel
theorem d_C_init_45 : decode c_C_init 45 = .ok (.return_, 1) := by decide +kernel
theorem d_C_variable_0 : decode c_C_variable 0 = .ok (.aload_n 0, 1) := by decide +kernel
theorem d_C_variable_1 : decode c_C_variable 1 = .ok (.getfield 34, 3) := by decide +kernel
theorem d_C_variable_4 : decode c_C_variable 4 = .ok (.bipush 10, 2) := by decide +kernel
theorem d_C_variable_6 : decode c_C_variable 6 = .ok (.if_icmp .lt 13, 3) := by decide +kernel
theorem d_C_variable_9 : decode c_C_variable 9 = .ok (.new 38, 3) := by decide +kernel
theorem d_C_variable_12 : decode c_C_variable 12 = .ok (.dup, 1) := by decide +kernel
theorem d_C_variable_13 : decode c_C_variable 13 = .ok (.ldc 40, 2) := by decide +kernel
theorem d_C_variable_15 : decode c_C_variable 15 = .ok (.invokespecial 42, 3) := by decide +kernel
theorem d_C_variable_18 : decode c_C_variable 18 = .ok (.athrow, 1) := by decide +kernel
theorem d_C_variable_19 : decode c_C_variable 19 = .ok (.aload_n 0, 1) := by decide +kernel
theorem d_C_variable_20 : decode c_C_variable 20 = .ok (.dup, 1) := by decide +kernel
theorem d_C_variable_21 : decode c_C_variable 21 = .ok (.getfield 34, 3) := by decide +kernel
theorem d_C_variable_24 : decode c_C_variable 24 = .ok (.iconst 1, 1) := by decide +kernel
theorem d_C_variable_25 : decode c_C_variable 25 = .ok (.iadd, 1) := by decide +kernel
theorem d_C_variable_26 : decode c_C_variable 26 = .ok (.putfield 34, 3) := by decide +kernel
theorem d_C_variable_29 : decode c_C_variable 29 = .ok (.aload_n 0, 1) := by decide +kernel
theorem d_C_variable_30 : decode c_C_variable 30 = .ok (.getfield 34, 3) := by decide +kernel
theorem d_C_variable_33 : decode c_C_variable 33 = .ok (.ireturn, 1) := by decide +kernel
theorem d_C_literal_0 : decode c_C_literal 0 = .ok (.aload_n 0, 1) := by decide +kernel
theorem d_C_literal_1 : decode c_C_literal 1 = .ok (.iload_n 1, 1) := by decide +kernel
theorem d_C_literal_2 : decode c_C_literal 2 = .ok (.invokevirtual 45, 3) := by decide +kernel
theorem d_C_literal_5 : decode c_C_literal 5 = .ok (.aload_n 0, 1) := by decide +kernel
theorem d_C_literal_6 : decode c_C_literal 6 = .ok (.getfield 49, 3) := by decide +kernel
theorem d_C_literal_9 : decode c_C_literal 9 = .ok (.bipush 12, 2) := by decide +kernel
theorem d_C_literal_11 : decode c_C_literal 11 = .ok (.if_icmp .lt 13, 3) := by decide +kernel
theorem d_C_literal_14 : decode c_C_literal 14 = .ok (.new 38, 3) := by decide +kernel
theorem d_C_literal_17 : decode c_C_literal 17 = .ok (.dup, 1) := by decide +kernel
theorem d_C_literal_18 : decode c_C_literal 18 = .ok (.ldc 52, 2) := by decide +kernel
theorem d_C_literal_20 : decode c_C_literal 20 = .ok (.invokespecial 42, 3) := by decide +kernel
theorem d_C_literal_23 : decode c_C_literal 23 = .ok (.athrow, 1) := by decide +kernel
theorem d_C_literal_24 : decode c_C_literal 24 = .ok (.aload_n 0, 1) := by decide +kernel
theorem d_C_literal_25 : decode c_C_literal 25 = .ok (.dup, 1) := by decide +kernel
theorem d_C_literal_26 : decode c_C_literal 26 = .ok (.getfield 54, 3) := by decide +kernel
theorem d_C_literal_29 : decode c_C_literal 29 = .ok (.iload_n 1, 1) := by decide +kernel
theorem d_C_literal_30 : decode c_C_literal 30 = .ok (.invokestatic 57, 3) := by decide +kernel
theorem d_C_literal_33 : decode c_C_literal 33 = .ok (.ior, 1) := by decide +kernel
theorem d_C_literal_34 : decode c_C_literal 34 = .ok (.putfield 54, 3) := by decide +kernel
theorem d_C_literal_37 : decode c_C_literal 37 = .ok (.aload_n 0, 1) := by decide +kernel
theorem d_C_literal_38 : decode c_C_literal 38 = .ok (.dup, 1) := by decide +kernel
theorem d_C_literal_39 : decode c_C_literal 39 = .ok (.getfield 49, 3) := by decide +kernel
theorem d_C_literal_42 : decode c_C_literal 42 = .ok (.iconst 1, 1) := by decide +kernel
theorem d_C_literal_43 : decode c_C_literal 43 = .ok (.iadd, 1) := by decide +kernel
theorem d_C_literal_44 : decode c_C_literal 44 = .ok (.putfield 49, 3) := by decide +kernel
theorem d_C_literal_47 : decode c_C_literal 47 = .ok (.return_, 1) := by decide +kernel
theorem d_C_close_0 : decode c_C_close 0 = .ok (.aload_n 0, 1) := by decide +kernel
theorem d_C_close_1 : decode c_C_close 1 = .ok (.getfield 63, 3) := by decide +kernel
theorem d_C_close_4 : decode c_C_close 4 = .ok (.sipush 500, 3) := by decide +kernel
theorem d_C_close_7 : decode c_C_close 7 = .ok (.if_icmp .lt 13, 3) := by decide +kernel
theorem d_C_close_10 : decode c_C_close 10 = .ok (.new 38, 3) := by decide +kernel
theorem d_C_close_13 : decode c_C_close 13 = .ok (.dup, 1) := by decide +kernel
theorem d_C_close_14 : decode c_C_close 14 = .ok (.ldc 66, 2) := by decide +kernel
theorem d_C_close_16 : decode c_C_close 16 = .ok (.invokespecial 42, 3) := by decide +kernel
theorem d_C_close_19 : decode c_C_close 19 = .ok (.athrow, 1) := by decide +kernel
theorem d_C_close_20 : decode c_C_close 20 = .ok (.aload_n 0, 1) := by decide +kernel
theorem d_C_close_21 : decode c_C_close 21 = .ok (.getfield 10, 3) := by decide +kernel
theorem d_C_close_24 : decode c_C_close 24 = .ok (.aload_n 0, 1) := by decide +kernel
theorem d_C_close_25 : decode c_C_close 25 = .ok (.getfield 54, 3) := by decide +kernel
theorem d_C_close_28 : decode c_C_close 28 = .ok (.invokevirtual 68, 3) := by decide +kernel
theorem d_C_close_31 : decode c_C_close 31 = .ok (.aload_n 0, 1) := by decide +kernel
theorem d_C_close_32 : decode c_C_close 32 = .ok (.iconst 0, 1) := by decide +kernel
theorem d_C_close_33 : decode c_C_close 33 = .ok (.putfield 54, 3) := by decide +kernel
theorem d_C_close_36 : decode c_C_close 36 = .ok (.aload_n 0, 1) := by decide +kernel
theorem d_C_close_37 : decode c_C_close 37 = .ok (.iconst 0, 1) := by decide +kernel
theorem d_C_close_38 : decode c_C_close 38 = .ok (.putfield 49, 3) := by decide +kernel
theorem d_C_close_41 : decode c_C_close 41 = .ok (.aload_n 0, 1) := by decide +kernel
theorem d_C_close_42 : decode c_C_close 42 = .ok (.dup, 1) := by decide +kernel
theorem d_C_close_43 : decode c_C_close 43 = .ok (.getfield 63, 3) := by decide +kernel
theorem d_C_close_46 : decode c_C_close 46 = .ok (.iconst 1, 1) := by decide +kernel
theorem d_C_close_47 : decode c_C_close 47 = .ok (.iadd, 1) := by decide +kernel
theorem d_C_close_48 : decode c_C_close 48 = .ok (.putfield 63, 3) := by decide +kernel
theorem d_C_close_51 : decode c_C_close 51 = .ok (.aload_n 0, 1) := by decide +kernel
theorem d_C_close_52 : decode c_C_close 52 = .ok (.getfield 63, 3) := by decide +kernel
theorem d_C_close_55 : decode c_C_close 55 = .ok (.iconst 1, 1) := by decide +kernel
theorem d_C_close_56 : decode c_C_close 56 = .ok (.isub, 1) := by decide +kernel
theorem d_C_close_57 : decode c_C_close 57 = .ok (.ireturn, 1) := by decide +kernel
theorem d_C_assume_0 : decode c_C_assume 0 = .ok (.aload_n 0, 1) := by decide +kernel
theorem d_C_assume_1 : decode c_C_assume 1 = .ok (.iload_n 1, 1) := by decide +kernel
theorem d_C_assume_2 : decode c_C_assume 2 = .ok (.invokevirtual 45, 3) := by decide +kernel
theorem d_C_assume_5 : decode c_C_assume 5 = .ok (.aload_n 0, 1) := by decide +kernel
theorem d_C_assume_6 : decode c_C_assume 6 = .ok (.getfield 71, 3) := by decide +kernel
theorem d_C_assume_9 : decode c_C_assume 9 = .ok (.bipush 10, 2) := by decide +kernel
theorem d_C_assume_11 : decode c_C_assume 11 = .ok (.if_icmp .lt 13, 3) := by decide +kernel
theorem d_C_assume_14 : decode c_C_assume 14 = .ok (.new 38, 3) := by decide +kernel
theorem d_C_assume_17 : decode c_C_assume 17 = .ok (.dup, 1) := by decide +kernel
theorem d_C_assume_18 : decode c_C_assume 18 = .ok (.ldc 74, 2) := by decide +kernel
theorem d_C_assume_20 : decode c_C_assume 20 = .ok (.invokespecial 42, 3) := by decide +kernel
theorem d_C_assume_23 : decode c_C_assume 23 = .ok (.athrow, 1) := by decide +kernel
theorem d_C_assume_24 : decode c_C_assume 24 = .ok (.aload_n 0, 1) := by decide +kernel
theorem d_C_assume_25 : decode c_C_assume 25 = .ok (.getfield 30, 3) := by decide +kernel
theorem d_C_assume_28 : decode c_C_assume 28 = .ok (.aload_n 0, 1) := by decide +kernel
theorem d_C_assume_29 : decode c_C_assume 29 = .ok (.getfield 71, 3) := by decide +kernel
theorem d_C_assume_32 : decode c_C_assume 32 = .ok (.iload_n 1, 1) := by decide +kernel
theorem d_C_assume_33 : decode c_C_assume 33 = .ok (.invokestatic 57, 3) := by decide +kernel
theorem d_C_assume_36 : decode c_C_assume 36 = .ok (.iastore, 1) := by decide +kernel
theorem d_C_assume_37 : decode c_C_assume 37 = .ok (.aload_n 0, 1) := by decide +kernel
theorem d_C_assume_38 : decode c_C_assume 38 = .ok (.dup, 1) := by decide +kernel
theorem d_C_assume_39 : decode c_C_assume 39 = .ok (.getfield 71, 3) := by decide +kernel
theorem d_C_assume_42 : decode c_C_assume 42 = .ok (.iconst 1, 1) := by decide +kernel
theorem d_C_assume_43 : decode c_C_assume 43 = .ok (.iadd, 1) := by decide +kernel
theorem d_C_assume_44 : decode c_C_assume 44 = .ok (.putfield 71, 3) := by decide +kernel
theorem d_C_assume_47 : decode c_C_assume 47 = .ok (.return_, 1) := by decide +kernel
theorem d_C_solve_0 : decode c_C_solve 0 = .ok (.aload_n 0, 1) := by decide +kernel
theorem d_C_solve_1 : decode c_C_solve 1 = .ok (.invokevirtual 76, 3) := by decide +kernel
theorem d_C_solve_4 : decode c_C_solve 4 = .ok (.aload_n 0, 1) := by decide +kernel
theorem d_C_solve_5 : decode c_C_solve 5 = .ok (.aload_n 0, 1) := by decide +kernel
theorem d_C_solve_6 : decode c_C_solve 6 = .ok (.invokevirtual 79, 3) := by decide +kernel
theorem d_C_solve_9 : decode c_C_solve 9 = .ok (.putfield 83, 3) := by decide +kernel
theorem d_C_solve_12 : decode c_C_solve 12 = .ok (.aload_n 0, 1) := by decide +kernel
theorem d_C_solve_13 : decode c_C_solve 13 = .ok (.aload_n 0, 1) := by decide +kernel
theorem d_C_solve_14 : decode c_C_solve 14 = .ok (.getfield 83, 3) := by decide +kernel
theorem d_C_solve_17 : decode c_C_solve 17 = .ok (.ifCond .eq 13, 3) := by decide +kernel
theorem d_C_solve_20 : decode c_C_solve 20 = .ok (.aload_n 0, 1) := by decide +kernel
theorem d_C_solve_21 : decode c_C_solve 21 = .ok (.getfield 19, 3) := by decide +kernel
theorem d_C_solve_24 : decode c_C_solve 24 = .ok (.invokevirtual 87, 3) := by decide +kernel
theorem d_C_solve_27 : decode c_C_solve 27 = .ok (.goto 4, 3) := by decide +kernel
theorem d_C_solve_30 : decode c_C_solve 30 = .ok (.iconst 0, 1) := by decide +kernel
theorem d_C_solve_31 : decode c_C_solve 31 = .ok (.putfield 91, 3) := by decide +kernel
theorem d_C_solve_34 : decode c_C_solve 34 = .ok (.aload_n 0, 1) := by decide +kernel
theorem d_C_solve_35 : decode c_C_solve 35 = .ok (.invokevirtual 94, 3) := by decide +kernel
theorem d_C_solve_38 : decode c_C_solve 38 = .ok (.aload_n 0, 1) := by decide +kernel
theorem d_C_solve_39 : decode c_C_solve 39 = .ok (.getfield 83, 3) := by decide +kernel
theorem d_C_solve_42 : decode c_C_solve 42 = .ok (.ireturn, 1) := by decide +kernel
theorem d_C_follows_0 : decode c_C_follows 0 = .ok (.aload_n 0, 1) := by decide +kernel
theorem d_C_follows_1 : decode c_C_follows 1 = .ok (.iload_n 1, 1) := by decide +kernel
theorem d_C_follows_2 : decode c_C_follows 2 = .ok (.invokevirtual 45, 3) := by decide +kernel
theorem d_C_follows_5 : decode c_C_follows 5 = .ok (.aload_n 0, 1) := by decide +kernel
theorem d_C_follows_6 : decode c_C_follows 6 = .ok (.invokevirtual 76, 3) := by decide +kernel
theorem d_C_follows_9 : decode c_C_follows 9 = .ok (.aload_n 0, 1) := by decide +kernel
theorem d_C_follows_10 : decode c_C_follows 10 = .ok (.getfield 10, 3) := by decide +kernel
theorem d_C_follows_13 : decode c_C_follows 13 = .ok (.iload_n 1, 1) := by decide +kernel
theorem d_C_follows_14 : decode c_C_follows 14 = .ok (.ineg, 1) := by decide +kernel
theorem d_C_follows_15 : decode c_C_follows 15 = .ok (.invokestatic 57, 3) := by decide +kernel
theorem d_C_follows_18 : decode c_C_follows 18 = .ok (.invokevirtual 68, 3) := by decide +kernel
theorem d_C_follows_21 : decode c_C_follows 21 = .ok (.aload_n 0, 1) := by decide +kernel
theorem d_C_follows_22 : decode c_C_follows 22 = .ok (.invokevirtual 79, 3) := by decide +kernel
theorem d_C_follows_25 : decode c_C_follows 25 = .ok (.istore_n 2, 1) := by decide +kernel
theorem d_C_follows_26 : decode c_C_follows 26 = .ok (.aload_n 0, 1) := by decide +kernel
theorem d_C_follows_27 : decode c_C_follows 27 = .ok (.invokevirtual 94, 3) := by decide +kernel
theorem d_C_follows_30 : decode c_C_follows 30 = .ok (.iload_n 2, 1) := by decide +kernel
theorem d_C_follows_31 : decode c_C_follows 31 = .ok (.ifCond .ne 7, 3) := by decide +kernel
theorem d_C_follows_34 : decode c_C_follows 34 = .ok (.iconst 1, 1) := by decide +kernel
theorem d_C_follows_35 : decode c_C_follows 35 = .ok (.goto 4, 3) := by decide +kernel
theorem d_C_follows_38 : decode c_C_follows 38 = .ok (.iconst 0, 1) := by decide +kernel
theorem d_C_follows_39 : decode c_C_follows 39 = .ok (.ireturn, 1) := by decide +kernel
theorem d_C_models_0 : decode c_C_models 0 = .ok (.aload_n 0, 1) := by decide +kernel
theorem d_C_models_1 : decode c_C_models 1 = .ok (.invokevirtual 76, 3) := by decide +kernel
theorem d_C_models_4 : decode c_C_models 4 = .ok (.iconst 0, 1) := by decide +kernel
theorem d_C_models_5 : decode c_C_models 5 = .ok (.istore_n 1, 1) := by decide +kernel
theorem d_C_models_6 : decode c_C_models 6 = .ok (.iload_n 1, 1) := by decide +kernel
theorem d_C_models_7 : decode c_C_models 7 = .ok (.bipush 40, 2) := by decide +kernel
theorem d_C_models_9 : decode c_C_models 9 = .ok (.if_icmp .ge 33, 3) := by decide +kernel
theorem d_C_models_12 : decode c_C_models 12 = .ok (.aload_n 0, 1) := by decide +kernel
theorem d_C_models_13 : decode c_C_models 13 = .ok (.invokevirtual 79, 3) := by decide +kernel
theorem d_C_models_16 : decode c_C_models 16 = .ok (.ifCond .eq 26, 3) := by decide +kernel
theorem d_C_models_19 : decode c_C_models 19 = .ok (.iinc 1 1, 3) := by decide +kernel
theorem d_C_models_22 : decode c_C_models 22 = .ok (.aload_n 0, 1) := by decide +kernel
theorem d_C_models_23 : decode c_C_models 23 = .ok (.getfield 10, 3) := by decide +kernel
theorem d_C_models_26 : decode c_C_models 26 = .ok (.aload_n 0, 1) := by decide +kernel
theorem d_C_models_27 : decode c_C_models 27 = .ok (.getfield 19, 3) := by decide +kernel
theorem d_C_models_30 : decode c_C_models 30 = .ok (.invokevirtual 87, 3) := by decide +kernel
theorem d_C_models_33 : decode c_C_models 33 = .ok (.invokestatic 97, 3) := by decide +kernel
theorem d_C_models_36 : decode c_C_models 36 = .ok (.invokevirtual 68, 3) := by decide +kernel
theorem d_C_models_39 : decode c_C_models 39 = .ok (.goto (-33), 3) := by decide +kernel
theorem d_C_models_42 : decode c_C_models 42 = .ok (.aload_n 0, 1) := by decide +kernel
theorem d_C_models_43 : decode c_C_models 43 = .ok (.invokevirtual 94, 3) := by decide +kernel
theorem d_C_models_46 : decode c_C_models 46 = .ok (.iload_n 1, 1) := by decide +kernel
theorem d_C_models_47 : decode c_C_models 47 = .ok (.ireturn, 1) := by decide +kernel
theorem d_C_value_0 : decode c_C_value 0 = .ok (.iload_n 1, 1) := by decide +kernel
theorem d_C_value_1 : decode c_C_value 1 = .ok (.iconst 1, 1) := by decide +kernel
theorem d_C_value_2 : decode c_C_value 2 = .ok (.if_icmp .lt 11, 3) := by decide +kernel
theorem d_C_value_5 : decode c_C_value 5 = .ok (.iload_n 1, 1) := by decide +kernel
theorem d_C_value_6 : decode c_C_value 6 = .ok (.aload_n 0, 1) := by decide +kernel
theorem d_C_value_7 : decode c_C_value 7 = .ok (.getfield 34, 3) := by decide +kernel
theorem d_C_value_10 : decode c_C_value 10 = .ok (.if_icmp .le 13, 3) := by decide +kernel
theorem d_C_value_13 : decode c_C_value 13 = .ok (.new 100, 3) := by decide +kernel
theorem d_C_value_16 : decode c_C_value 16 = .ok (.dup, 1) := by decide +kernel
theorem d_C_value_17 : decode c_C_value 17 = .ok (.ldc 102, 2) := by decide +kernel
theorem d_C_value_19 : decode c_C_value 19 = .ok (.invokespecial 104, 3) := by decide +kernel
theorem d_C_value_22 : decode c_C_value 22 = .ok (.athrow, 1) := by decide +kernel
theorem d_C_value_23 : decode c_C_value 23 = .ok (.aload_n 0, 1) := by decide +kernel
theorem d_C_value_24 : decode c_C_value 24 = .ok (.getfield 83, 3) := by decide +kernel
theorem d_C_value_27 : decode c_C_value 27 = .ok (.ifCond .ne 13, 3) := by decide +kernel
theorem d_C_value_30 : decode c_C_value 30 = .ok (.new 105, 3) := by decide +kernel
theorem d_C_value_33 : decode c_C_value 33 = .ok (.dup, 1) := by decide +kernel
theorem d_C_value_34 : decode c_C_value 34 = .ok (.ldc 107, 2) := by decide +kernel
theorem d_C_value_36 : decode c_C_value 36 = .ok (.invokespecial 109, 3) := by decide +kernel
theorem d_C_value_39 : decode c_C_value 39 = .ok (.athrow, 1) := by decide +kernel
theorem d_C_value_40 : decode c_C_value 40 = .ok (.aload_n 0, 1) := by decide +kernel
theorem d_C_value_41 : decode c_C_value 41 = .ok (.getfield 91, 3) := by decide +kernel
theorem d_C_value_44 : decode c_C_value 44 = .ok (.iload_n 1, 1) := by decide +kernel
theorem d_C_value_45 : decode c_C_value 45 = .ok (.invokestatic 57, 3) := by decide +kernel
theorem d_C_value_48 : decode c_C_value 48 = .ok (.iand, 1) := by decide +kernel
theorem d_C_value_49 : decode c_C_value 49 = .ok (.ifCond .eq 7, 3) := by decide +kernel
theorem d_C_value_52 : decode c_C_value 52 = .ok (.iconst 1, 1) := by decide +kernel
theorem d_C_value_53 : decode c_C_value 53 = .ok (.goto 4, 3) := by decide +kernel
theorem d_C_value_56 : decode c_C_value 56 = .ok (.iconst 0, 1) := by decide +kernel
theorem d_C_value_57 : decode c_C_value 57 = .ok (.ireturn, 1) := by decide +kernel
theorem d_C_count_0 : decode c_C_count 0 = .ok (.iload_n 1, 1) := by decide +kernel
theorem d_C_count_1 : decode c_C_count 1 = .ok (.tableswitch 80 0 5 #[39, 44, 49, 54, 59, 72], 39) := by decide +kernel
theorem d_C_count_40 : decode c_C_count 40 = .ok (.aload_n 0, 1) := by decide +kernel
theorem d_C_count_41 : decode c_C_count 41 = .ok (.getfield 34, 3) := by decide +kernel
theorem d_C_count_44 : decode c_C_count 44 = .ok (.ireturn, 1) := by decide +kernel
theorem d_C_count_45 : decode c_C_count 45 = .ok (.aload_n 0, 1) := by decide +kernel
theorem d_C_count_46 : decode c_C_count 46 = .ok (.getfield 63, 3) := by decide +kernel
theorem d_C_count_49 : decode c_C_count 49 = .ok (.ireturn, 1) := by decide +kernel
theorem d_C_count_50 : decode c_C_count 50 = .ok (.aload_n 0, 1) := by decide +kernel
theorem d_C_count_51 : decode c_C_count 51 = .ok (.getfield 49, 3) := by decide +kernel
theorem d_C_count_54 : decode c_C_count 54 = .ok (.ireturn, 1) := by decide +kernel
theorem d_C_count_55 : decode c_C_count 55 = .ok (.aload_n 0, 1) := by decide +kernel
theorem d_C_count_56 : decode c_C_count 56 = .ok (.getfield 71, 3) := by decide +kernel
theorem d_C_count_59 : decode c_C_count 59 = .ok (.ireturn, 1) := by decide +kernel
theorem d_C_count_60 : decode c_C_count 60 = .ok (.aload_n 0, 1) := by decide +kernel
theorem d_C_count_61 : decode c_C_count 61 = .ok (.getfield 83, 3) := by decide +kernel
theorem d_C_count_64 : decode c_C_count 64 = .ok (.ifCond .eq 7, 3) := by decide +kernel
theorem d_C_count_67 : decode c_C_count 67 = .ok (.iconst 1, 1) := by decide +kernel
theorem d_C_count_68 : decode c_C_count 68 = .ok (.goto 4, 3) := by decide +kernel
theorem d_C_count_71 : decode c_C_count 71 = .ok (.iconst 0, 1) := by decide +kernel
theorem d_C_count_72 : decode c_C_count 72 = .ok (.ireturn, 1) := by decide +kernel
theorem d_C_count_73 : decode c_C_count 73 = .ok (.aload_n 0, 1) := by decide +kernel
theorem d_C_count_74 : decode c_C_count 74 = .ok (.getfield 26, 3) := by decide +kernel
theorem d_C_count_77 : decode c_C_count 77 = .ok (.invokevirtual 110, 3) := by decide +kernel
theorem d_C_count_80 : decode c_C_count 80 = .ok (.ireturn, 1) := by decide +kernel
theorem d_C_count_81 : decode c_C_count 81 = .ok (.iconst (-1), 1) := by decide +kernel
theorem d_C_count_82 : decode c_C_count 82 = .ok (.ireturn, 1) := by decide +kernel
theorem d_C_needLiteral_0 : decode c_C_needLiteral 0 = .ok (.iload_n 1, 1) := by decide +kernel
theorem d_C_needLiteral_1 : decode c_C_needLiteral 1 = .ok (.ifCond .eq 20, 3) := by decide +kernel
theorem d_C_needLiteral_4 : decode c_C_needLiteral 4 = .ok (.iload_n 1, 1) := by decide +kernel
theorem d_C_needLiteral_5 : decode c_C_needLiteral 5 = .ok (.aload_n 0, 1) := by decide +kernel
theorem d_C_needLiteral_6 : decode c_C_needLiteral 6 = .ok (.getfield 34, 3) := by decide +kernel
theorem d_C_needLiteral_9 : decode c_C_needLiteral 9 = .ok (.if_icmp .gt 12, 3) := by decide +kernel
theorem d_C_needLiteral_12 : decode c_C_needLiteral 12 = .ok (.iload_n 1, 1) := by decide +kernel
theorem d_C_needLiteral_13 : decode c_C_needLiteral 13 = .ok (.aload_n 0, 1) := by decide +kernel
theorem d_C_needLiteral_14 : decode c_C_needLiteral 14 = .ok (.getfield 34, 3) := by decide +kernel
theorem d_C_needLiteral_17 : decode c_C_needLiteral 17 = .ok (.ineg, 1) := by decide +kernel
theorem d_C_needLiteral_18 : decode c_C_needLiteral 18 = .ok (.if_icmp .ge 13, 3) := by decide +kernel
theorem d_C_needLiteral_21 : decode c_C_needLiteral 21 = .ok (.new 100, 3) := by decide +kernel
theorem d_C_needLiteral_24 : decode c_C_needLiteral 24 = .ok (.dup, 1) := by decide +kernel
theorem d_C_needLiteral_25 : decode c_C_needLiteral 25 = .ok (.ldc 113, 2) := by decide +kernel
theorem d_C_needLiteral_27 : decode c_C_needLiteral 27 = .ok (.invokespecial 104, 3) := by decide +kernel
theorem d_C_needLiteral_30 : decode c_C_needLiteral 30 = .ok (.athrow, 1) := by decide +kernel
theorem d_C_needLiteral_31 : decode c_C_needLiteral 31 = .ok (.return_, 1) := by decide +kernel
theorem d_C_openQuestion_0 : decode c_C_openQuestion 0 = .ok (.aload_n 0, 1) := by decide +kernel
theorem d_C_openQuestion_1 : decode c_C_openQuestion 1 = .ok (.iconst 0, 1) := by decide +kernel
theorem d_C_openQuestion_2 : decode c_C_openQuestion 2 = .ok (.putfield 83, 3) := by decide +kernel
theorem d_C_openQuestion_5 : decode c_C_openQuestion 5 = .ok (.aload_n 0, 1) := by decide +kernel
theorem d_C_openQuestion_6 : decode c_C_openQuestion 6 = .ok (.iconst 0, 1) := by decide +kernel
theorem d_C_openQuestion_7 : decode c_C_openQuestion 7 = .ok (.putfield 91, 3) := by decide +kernel
theorem d_C_openQuestion_10 : decode c_C_openQuestion 10 = .ok (.iconst 0, 1) := by decide +kernel
theorem d_C_openQuestion_11 : decode c_C_openQuestion 11 = .ok (.istore_n 1, 1) := by decide +kernel
theorem d_C_openQuestion_12 : decode c_C_openQuestion 12 = .ok (.iload_n 1, 1) := by decide +kernel
theorem d_C_openQuestion_13 : decode c_C_openQuestion 13 = .ok (.aload_n 0, 1) := by decide +kernel
theorem d_C_openQuestion_14 : decode c_C_openQuestion 14 = .ok (.getfield 71, 3) := by decide +kernel
theorem d_C_openQuestion_17 : decode c_C_openQuestion 17 = .ok (.if_icmp .ge 22, 3) := by decide +kernel
theorem d_C_openQuestion_20 : decode c_C_openQuestion 20 = .ok (.aload_n 0, 1) := by decide +kernel
theorem d_C_openQuestion_21 : decode c_C_openQuestion 21 = .ok (.getfield 10, 3) := by decide +kernel
theorem d_C_openQuestion_24 : decode c_C_openQuestion 24 = .ok (.aload_n 0, 1) := by decide +kernel
theorem d_C_openQuestion_25 : decode c_C_openQuestion 25 = .ok (.getfield 30, 3) := by decide +kernel
theorem d_C_openQuestion_28 : decode c_C_openQuestion 28 = .ok (.iload_n 1, 1) := by decide +kernel
theorem d_C_openQuestion_29 : decode c_C_openQuestion 29 = .ok (.iaload, 1) := by decide +kernel
theorem d_C_openQuestion_30 : decode c_C_openQuestion 30 = .ok (.invokevirtual 68, 3) := by decide +kernel
theorem d_C_openQuestion_33 : decode c_C_openQuestion 33 = .ok (.iinc 1 1, 3) := by decide +kernel
theorem d_C_openQuestion_36 : decode c_C_openQuestion 36 = .ok (.goto (-24), 3) := by decide +kernel
theorem d_C_openQuestion_39 : decode c_C_openQuestion 39 = .ok (.aload_n 0, 1) := by decide +kernel
theorem d_C_openQuestion_40 : decode c_C_openQuestion 40 = .ok (.iconst 0, 1) := by decide +kernel
theorem d_C_openQuestion_41 : decode c_C_openQuestion 41 = .ok (.putfield 71, 3) := by decide +kernel
theorem d_C_openQuestion_44 : decode c_C_openQuestion 44 = .ok (.aload_n 0, 1) := by decide +kernel
theorem d_C_openQuestion_45 : decode c_C_openQuestion 45 = .ok (.getfield 19, 3) := by decide +kernel
theorem d_C_openQuestion_48 : decode c_C_openQuestion 48 = .ok (.invokevirtual 115, 3) := by decide +kernel
theorem d_C_openQuestion_51 : decode c_C_openQuestion 51 = .ok (.return_, 1) := by decide +kernel
theorem d_C_nextModel_0 : decode c_C_nextModel 0 = .ok (.aload_n 0, 1) := by decide +kernel
theorem d_C_nextModel_1 : decode c_C_nextModel 1 = .ok (.getfield 19, 3) := by decide +kernel
theorem d_C_nextModel_4 : decode c_C_nextModel 4 = .ok (.aload_n 0, 1) := by decide +kernel
theorem d_C_nextModel_5 : decode c_C_nextModel 5 = .ok (.getfield 10, 3) := by decide +kernel
theorem d_C_nextModel_8 : decode c_C_nextModel 8 = .ok (.aload_n 0, 1) := by decide +kernel
theorem d_C_nextModel_9 : decode c_C_nextModel 9 = .ok (.getfield 34, 3) := by decide +kernel
theorem d_C_nextModel_12 : decode c_C_nextModel 12 = .ok (.invokevirtual 118, 3) := by decide +kernel
theorem d_C_nextModel_15 : decode c_C_nextModel 15 = .ok (.istore_n 1, 1) := by decide +kernel
theorem d_C_nextModel_16 : decode c_C_nextModel 16 = .ok (.iload_n 1, 1) := by decide +kernel
theorem d_C_nextModel_17 : decode c_C_nextModel 17 = .ok (.ifCond .eq 28, 3) := by decide +kernel
theorem d_C_nextModel_20 : decode c_C_nextModel 20 = .ok (.aload_n 0, 1) := by decide +kernel
theorem d_C_nextModel_21 : decode c_C_nextModel 21 = .ok (.getfield 26, 3) := by decide +kernel
theorem d_C_nextModel_24 : decode c_C_nextModel 24 = .ok (.aload_n 0, 1) := by decide +kernel
theorem d_C_nextModel_25 : decode c_C_nextModel 25 = .ok (.getfield 10, 3) := by decide +kernel
theorem d_C_nextModel_28 : decode c_C_nextModel 28 = .ok (.aload_n 0, 1) := by decide +kernel
theorem d_C_nextModel_29 : decode c_C_nextModel 29 = .ok (.getfield 19, 3) := by decide +kernel
theorem d_C_nextModel_32 : decode c_C_nextModel 32 = .ok (.invokevirtual 87, 3) := by decide +kernel
theorem d_C_nextModel_35 : decode c_C_nextModel 35 = .ok (.aload_n 0, 1) := by decide +kernel
theorem d_C_nextModel_36 : decode c_C_nextModel 36 = .ok (.getfield 34, 3) := by decide +kernel
theorem d_C_nextModel_39 : decode c_C_nextModel 39 = .ok (.invokevirtual 122, 3) := by decide +kernel
theorem d_C_nextModel_42 : decode c_C_nextModel 42 = .ok (.goto 14, 3) := by decide +kernel
theorem d_C_nextModel_45 : decode c_C_nextModel 45 = .ok (.aload_n 0, 1) := by decide +kernel
theorem d_C_nextModel_46 : decode c_C_nextModel 46 = .ok (.getfield 26, 3) := by decide +kernel
theorem d_C_nextModel_49 : decode c_C_nextModel 49 = .ok (.aload_n 0, 1) := by decide +kernel
theorem d_C_nextModel_50 : decode c_C_nextModel 50 = .ok (.getfield 10, 3) := by decide +kernel
theorem d_C_nextModel_53 : decode c_C_nextModel 53 = .ok (.invokevirtual 126, 3) := by decide +kernel
theorem d_C_nextModel_56 : decode c_C_nextModel 56 = .ok (.iload_n 1, 1) := by decide +kernel
theorem d_C_nextModel_57 : decode c_C_nextModel 57 = .ok (.ireturn, 1) := by decide +kernel
theorem d_C_endQuestion_0 : decode c_C_endQuestion 0 = .ok (.aload_n 0, 1) := by decide +kernel
theorem d_C_endQuestion_1 : decode c_C_endQuestion 1 = .ok (.getfield 10, 3) := by decide +kernel
theorem d_C_endQuestion_4 : decode c_C_endQuestion 4 = .ok (.aload_n 0, 1) := by decide +kernel
theorem d_C_endQuestion_5 : decode c_C_endQuestion 5 = .ok (.getfield 63, 3) := by decide +kernel
theorem d_C_endQuestion_8 : decode c_C_endQuestion 8 = .ok (.invokevirtual 130, 3) := by decide +kernel
theorem d_C_endQuestion_11 : decode c_C_endQuestion 11 = .ok (.return_, 1) := by decide +kernel
end
section
/-! decode rows, by program -/
theorem d_M_init_0 : decode c_M_init 0 = .ok (.aload_n 0, 1) := by decide +kernel
theorem d_M_init_1 : decode c_M_init 1 = .ok (.invokespecial 1, 3) := by decide +kernel
theorem d_M_init_4 : decode c_M_init 4 = .ok (.aload_n 0, 1) := by decide +kernel
theorem d_M_init_5 : decode c_M_init 5 = .ok (.iconst (-1), 1) := by decide +kernel
theorem d_M_init_6 : decode c_M_init 6 = .ok (.putfield 7, 3) := by decide +kernel
theorem d_M_init_9 : decode c_M_init 9 = .ok (.aload_n 0, 1) := by decide +kernel
theorem d_M_init_10 : decode c_M_init 10 = .ok (.sipush 1024, 3) := by decide +kernel
theorem d_M_init_13 : decode c_M_init 13 = .ok (.newarray .boolean, 2) := by decide +kernel
theorem d_M_init_15 : decode c_M_init 15 = .ok (.putfield 13, 3) := by decide +kernel
theorem d_M_init_18 : decode c_M_init 18 = .ok (.return_, 1) := by decide +kernel
theorem d_M_thrown_0 : decode c_M_thrown 0 = .ok (.aload_n 0, 1) := by decide +kernel
theorem d_M_thrown_1 : decode c_M_thrown 1 = .ok (.getfield 17, 3) := by decide +kernel
theorem d_M_thrown_4 : decode c_M_thrown 4 = .ok (.ireturn, 1) := by decide +kernel
theorem d_M_no_0 : decode c_M_no 0 = .ok (.aload_n 0, 1) := by decide +kernel
theorem d_M_no_1 : decode c_M_no 1 = .ok (.iload_n 1, 1) := by decide +kernel
theorem d_M_no_2 : decode c_M_no 2 = .ok (.putfield 17, 3) := by decide +kernel
theorem d_M_no_5 : decode c_M_no 5 = .ok (.iconst 0, 1) := by decide +kernel
theorem d_M_no_6 : decode c_M_no 6 = .ok (.ireturn, 1) := by decide +kernel
theorem d_M_isLiteral_0 : decode c_M_isLiteral 0 = .ok (.iload_n 1, 1) := by decide +kernel
theorem d_M_isLiteral_1 : decode c_M_isLiteral 1 = .ok (.ifCond .eq 24, 3) := by decide +kernel
theorem d_M_isLiteral_4 : decode c_M_isLiteral 4 = .ok (.iload_n 1, 1) := by decide +kernel
theorem d_M_isLiteral_5 : decode c_M_isLiteral 5 = .ok (.aload_n 0, 1) := by decide +kernel
theorem d_M_isLiteral_6 : decode c_M_isLiteral 6 = .ok (.getfield 20, 3) := by decide +kernel
theorem d_M_isLiteral_9 : decode c_M_isLiteral 9 = .ok (.ineg, 1) := by decide +kernel
theorem d_M_isLiteral_10 : decode c_M_isLiteral 10 = .ok (.if_icmp .lt 15, 3) := by decide +kernel
theorem d_M_isLiteral_13 : decode c_M_isLiteral 13 = .ok (.iload_n 1, 1) := by decide +kernel
theorem d_M_isLiteral_14 : decode c_M_isLiteral 14 = .ok (.aload_n 0, 1) := by decide +kernel
theorem d_M_isLiteral_15 : decode c_M_isLiteral 15 = .ok (.getfield 20, 3) := by decide +kernel
theorem d_M_isLiteral_18 : decode c_M_isLiteral 18 = .ok (.if_icmp .gt 7, 3) := by decide +kernel
theorem d_M_isLiteral_21 : decode c_M_isLiteral 21 = .ok (.iconst 1, 1) := by decide +kernel
theorem d_M_isLiteral_22 : decode c_M_isLiteral 22 = .ok (.goto 4, 3) := by decide +kernel
theorem d_M_isLiteral_25 : decode c_M_isLiteral 25 = .ok (.iconst 0, 1) := by decide +kernel
theorem d_M_isLiteral_26 : decode c_M_isLiteral 26 = .ok (.ireturn, 1) := by decide +kernel
theorem d_M_variable_0 : decode c_M_variable 0 = .ok (.aload_n 0, 1) := by decide +kernel
theorem d_M_variable_1 : decode c_M_variable 1 = .ok (.getfield 20, 3) := by decide +kernel
theorem d_M_variable_4 : decode c_M_variable 4 = .ok (.bipush 10, 2) := by decide +kernel
theorem d_M_variable_6 : decode c_M_variable 6 = .ok (.if_icmp .ne 9, 3) := by decide +kernel
theorem d_M_variable_9 : decode c_M_variable 9 = .ok (.aload_n 0, 1) := by decide +kernel
theorem d_M_variable_10 : decode c_M_variable 10 = .ok (.iconst 1, 1) := by decide +kernel
theorem d_M_variable_11 : decode c_M_variable 11 = .ok (.invokevirtual 23, 3) := by decide +kernel
theorem d_M_variable_14 : decode c_M_variable 14 = .ok (.ireturn, 1) := by decide +kernel
theorem d_M_variable_15 : decode c_M_variable 15 = .ok (.aload_n 0, 1) := by decide +kernel
theorem d_M_variable_16 : decode c_M_variable 16 = .ok (.iconst 0, 1) := by decide +kernel
theorem d_M_variable_17 : decode c_M_variable 17 = .ok (.putfield 17, 3) := by decide +kernel
theorem d_M_variable_20 : decode c_M_variable 20 = .ok (.aload_n 0, 1) := by decide +kernel
theorem d_M_variable_21 : decode c_M_variable 21 = .ok (.dup, 1) := by decide +kernel
theorem d_M_variable_22 : decode c_M_variable 22 = .ok (.getfield 20, 3) := by decide +kernel
theorem d_M_variable_25 : decode c_M_variable 25 = .ok (.iconst 1, 1) := by decide +kernel
theorem d_M_variable_26 : decode c_M_variable 26 = .ok (.iadd, 1) := by decide +kernel
theorem d_M_variable_27 : decode c_M_variable 27 = .ok (.putfield 20, 3) := by decide +kernel
theorem d_M_variable_30 : decode c_M_variable 30 = .ok (.aload_n 0, 1) := by decide +kernel
theorem d_M_variable_31 : decode c_M_variable 31 = .ok (.getfield 20, 3) := by decide +kernel
theorem d_M_variable_34 : decode c_M_variable 34 = .ok (.ireturn, 1) := by decide +kernel
theorem d_M_literal_0 : decode c_M_literal 0 = .ok (.aload_n 0, 1) := by decide +kernel
theorem d_M_literal_1 : decode c_M_literal 1 = .ok (.aload_n 0, 1) := by decide +kernel
theorem d_M_literal_2 : decode c_M_literal 2 = .ok (.iload_n 1, 1) := by decide +kernel
theorem d_M_literal_3 : decode c_M_literal 3 = .ok (.invokevirtual 27, 3) := by decide +kernel
theorem d_M_literal_6 : decode c_M_literal 6 = .ok (.ifCond .ne 7, 3) := by decide +kernel
theorem d_M_literal_9 : decode c_M_literal 9 = .ok (.iconst 1, 1) := by decide +kernel
theorem d_M_literal_10 : decode c_M_literal 10 = .ok (.goto 17, 3) := by decide +kernel
theorem d_M_literal_13 : decode c_M_literal 13 = .ok (.aload_n 0, 1) := by decide +kernel
theorem d_M_literal_14 : decode c_M_literal 14 = .ok (.getfield 31, 3) := by decide +kernel
theorem d_M_literal_17 : decode c_M_literal 17 = .ok (.bipush 12, 2) := by decide +kernel
theorem d_M_literal_19 : decode c_M_literal 19 = .ok (.if_icmp .ne 7, 3) := by decide +kernel
theorem d_M_literal_22 : decode c_M_literal 22 = .ok (.iconst 2, 1) := by decide +kernel
theorem d_M_literal_23 : decode c_M_literal 23 = .ok (.goto 4, 3) := by decide +kernel
theorem d_M_literal_26 : decode c_M_literal 26 = .ok (.iconst 0, 1) := by decide +kernel
theorem d_M_literal_27 : decode c_M_literal 27 = .ok (.putfield 17, 3) := by decide +kernel
theorem d_M_literal_30 : decode c_M_literal 30 = .ok (.aload_n 0, 1) := by decide +kernel
theorem d_M_literal_31 : decode c_M_literal 31 = .ok (.getfield 17, 3) := by decide +kernel
theorem d_M_literal_34 : decode c_M_literal 34 = .ok (.ifCond .eq 4, 3) := by decide +kernel
theorem d_M_literal_37 : decode c_M_literal 37 = .ok (.return_, 1) := by decide +kernel
theorem d_M_literal_38 : decode c_M_literal 38 = .ok (.iload_n 1, 1) := by decide +kernel
theorem d_M_literal_39 : decode c_M_literal 39 = .ok (.ifCond .le 20, 3) := by decide +kernel
theorem d_M_literal_42 : decode c_M_literal 42 = .ok (.aload_n 0, 1) := by decide +kernel
theorem d_M_literal_43 : decode c_M_literal 43 = .ok (.dup, 1) := by decide +kernel
theorem d_M_literal_44 : decode c_M_literal 44 = .ok (.getfield 34, 3) := by decide +kernel
theorem d_M_literal_47 : decode c_M_literal 47 = .ok (.iconst 1, 1) := by decide +kernel
theorem d_M_literal_48 : decode c_M_literal 48 = .ok (.iload_n 1, 1) := by decide +kernel
theorem d_M_literal_49 : decode c_M_literal 49 = .ok (.iconst 1, 1) := by decide +kernel
theorem d_M_literal_50 : decode c_M_literal 50 = .ok (.isub, 1) := by decide +kernel
theorem d_M_literal_51 : decode c_M_literal 51 = .ok (.ishl, 1) := by decide +kernel
theorem d_M_literal_52 : decode c_M_literal 52 = .ok (.ior, 1) := by decide +kernel
theorem d_M_literal_53 : decode c_M_literal 53 = .ok (.putfield 34, 3) := by decide +kernel
theorem d_M_literal_56 : decode c_M_literal 56 = .ok (.goto 18, 3) := by decide +kernel
theorem d_M_literal_59 : decode c_M_literal 59 = .ok (.aload_n 0, 1) := by decide +kernel
theorem d_M_literal_60 : decode c_M_literal 60 = .ok (.dup, 1) := by decide +kernel
theorem d_M_literal_61 : decode c_M_literal 61 = .ok (.getfield 37, 3) := by decide +kernel
theorem d_M_literal_64 : decode c_M_literal 64 = .ok (.iconst 1, 1) := by decide +kernel
theorem d_M_literal_65 : decode c_M_literal 65 = .ok (.iload_n 1, 1) := by decide +kernel
theorem d_M_literal_66 : decode c_M_literal 66 = .ok (.ineg, 1) := by decide +kernel
theorem d_M_literal_67 : decode c_M_literal 67 = .ok (.iconst 1, 1) := by decide +kernel
theorem d_M_literal_68 : decode c_M_literal 68 = .ok (.isub, 1) := by decide +kernel
theorem d_M_literal_69 : decode c_M_literal 69 = .ok (.ishl, 1) := by decide +kernel
theorem d_M_literal_70 : decode c_M_literal 70 = .ok (.ior, 1) := by decide +kernel
theorem d_M_literal_71 : decode c_M_literal 71 = .ok (.putfield 37, 3) := by decide +kernel
theorem d_M_literal_74 : decode c_M_literal 74 = .ok (.aload_n 0, 1) := by decide +kernel
theorem d_M_literal_75 : decode c_M_literal 75 = .ok (.dup, 1) := by decide +kernel
theorem d_M_literal_76 : decode c_M_literal 76 = .ok (.getfield 31, 3) := by decide +kernel
theorem d_M_literal_79 : decode c_M_literal 79 = .ok (.iconst 1, 1) := by decide +kernel
theorem d_M_literal_80 : decode c_M_literal 80 = .ok (.iadd, 1) := by decide +kernel
theorem d_M_literal_81 : decode c_M_literal 81 = .ok (.putfield 31, 3) := by decide +kernel
theorem d_M_literal_84 : decode c_M_literal 84 = .ok (.return_, 1) := by decide +kernel
theorem d_M_close_0 : decode c_M_close 0 = .ok (.aload_n 0, 1) := by decide +kernel
theorem d_M_close_1 : decode c_M_close 1 = .ok (.getfield 40, 3) := by decide +kernel
theorem d_M_close_4 : decode c_M_close 4 = .ok (.sipush 500, 3) := by decide +kernel
theorem d_M_close_7 : decode c_M_close 7 = .ok (.if_icmp .ne 9, 3) := by decide +kernel
theorem d_M_close_10 : decode c_M_close 10 = .ok (.aload_n 0, 1) := by decide +kernel
theorem d_M_close_11 : decode c_M_close 11 = .ok (.iconst 1, 1) := by decide +kernel
theorem d_M_close_12 : decode c_M_close 12 = .ok (.invokevirtual 23, 3) := by decide +kernel
theorem d_M_close_15 : decode c_M_close 15 = .ok (.ireturn, 1) := by decide +kernel
theorem d_M_close_16 : decode c_M_close 16 = .ok (.aload_n 0, 1) := by decide +kernel
theorem d_M_close_17 : decode c_M_close 17 = .ok (.iconst 0, 1) := by decide +kernel
theorem d_M_close_18 : decode c_M_close 18 = .ok (.putfield 17, 3) := by decide +kernel
theorem d_M_close_21 : decode c_M_close 21 = .ok (.iconst 0, 1) := by decide +kernel
theorem d_M_close_22 : decode c_M_close 22 = .ok (.istore_n 1, 1) := by decide +kernel
theorem d_M_close_23 : decode c_M_close 23 = .ok (.iload_n 1, 1) := by decide +kernel
theorem d_M_close_24 : decode c_M_close 24 = .ok (.aload_n 0, 1) := by decide +kernel
theorem d_M_close_25 : decode c_M_close 25 = .ok (.getfield 13, 3) := by decide +kernel
theorem d_M_close_28 : decode c_M_close 28 = .ok (.arraylength, 1) := by decide +kernel
theorem d_M_close_29 : decode c_M_close 29 = .ok (.if_icmp .ge 36, 3) := by decide +kernel
theorem d_M_close_32 : decode c_M_close 32 = .ok (.iload_n 1, 1) := by decide +kernel
theorem d_M_close_33 : decode c_M_close 33 = .ok (.aload_n 0, 1) := by decide +kernel
theorem d_M_close_34 : decode c_M_close 34 = .ok (.getfield 34, 3) := by decide +kernel
theorem d_M_close_37 : decode c_M_close 37 = .ok (.iand, 1) := by decide +kernel
theorem d_M_close_38 : decode c_M_close 38 = .ok (.ifCond .ne 21, 3) := by decide +kernel
theorem d_M_close_41 : decode c_M_close 41 = .ok (.iload_n 1, 1) := by decide +kernel
theorem d_M_close_42 : decode c_M_close 42 = .ok (.iconst (-1), 1) := by decide +kernel
theorem d_M_close_43 : decode c_M_close 43 = .ok (.ixor, 1) := by decide +kernel
theorem d_M_close_44 : decode c_M_close 44 = .ok (.aload_n 0, 1) := by decide +kernel
theorem d_M_close_45 : decode c_M_close 45 = .ok (.getfield 37, 3) := by decide +kernel
theorem d_M_close_48 : decode c_M_close 48 = .ok (.iand, 1) := by decide +kernel
theorem d_M_close_49 : decode c_M_close 49 = .ok (.ifCond .ne 10, 3) := by decide +kernel
theorem d_M_close_52 : decode c_M_close 52 = .ok (.aload_n 0, 1) := by decide +kernel
theorem d_M_close_53 : decode c_M_close 53 = .ok (.getfield 13, 3) := by decide +kernel
theorem d_M_close_56 : decode c_M_close 56 = .ok (.iload_n 1, 1) := by decide +kernel
theorem d_M_close_57 : decode c_M_close 57 = .ok (.iconst 1, 1) := by decide +kernel
theorem d_M_close_58 : decode c_M_close 58 = .ok (.bastore, 1) := by decide +kernel
theorem d_M_close_59 : decode c_M_close 59 = .ok (.iinc 1 1, 3) := by decide +kernel
theorem d_M_close_62 : decode c_M_close 62 = .ok (.goto (-39), 3) := by decide +kernel
theorem d_M_close_65 : decode c_M_close 65 = .ok (.aload_n 0, 1) := by decide +kernel
theorem d_M_close_66 : decode c_M_close 66 = .ok (.iconst 0, 1) := by decide +kernel
theorem d_M_close_67 : decode c_M_close 67 = .ok (.putfield 34, 3) := by decide +kernel
theorem d_M_close_70 : decode c_M_close 70 = .ok (.aload_n 0, 1) := by decide +kernel
theorem d_M_close_71 : decode c_M_close 71 = .ok (.iconst 0, 1) := by decide +kernel
theorem d_M_close_72 : decode c_M_close 72 = .ok (.putfield 37, 3) := by decide +kernel
theorem d_M_close_75 : decode c_M_close 75 = .ok (.aload_n 0, 1) := by decide +kernel
theorem d_M_close_76 : decode c_M_close 76 = .ok (.iconst 0, 1) := by decide +kernel
theorem d_M_close_77 : decode c_M_close 77 = .ok (.putfield 31, 3) := by decide +kernel
theorem d_M_close_80 : decode c_M_close 80 = .ok (.aload_n 0, 1) := by decide +kernel
theorem d_M_close_81 : decode c_M_close 81 = .ok (.dup, 1) := by decide +kernel
theorem d_M_close_82 : decode c_M_close 82 = .ok (.getfield 40, 3) := by decide +kernel
theorem d_M_close_85 : decode c_M_close 85 = .ok (.iconst 1, 1) := by decide +kernel
theorem d_M_close_86 : decode c_M_close 86 = .ok (.iadd, 1) := by decide +kernel
theorem d_M_close_87 : decode c_M_close 87 = .ok (.putfield 40, 3) := by decide +kernel
theorem d_M_close_90 : decode c_M_close 90 = .ok (.aload_n 0, 1) := by decide +kernel
theorem d_M_close_91 : decode c_M_close 91 = .ok (.getfield 40, 3) := by decide +kernel
theorem d_M_close_94 : decode c_M_close 94 = .ok (.iconst 1, 1) := by decide +kernel
theorem d_M_close_95 : decode c_M_close 95 = .ok (.isub, 1) := by decide +kernel
theorem d_M_close_96 : decode c_M_close 96 = .ok (.ireturn, 1) := by decide +kernel
theorem d_M_assume_0 : decode c_M_assume 0 = .ok (.aload_n 0, 1) := by decide +kernel
theorem d_M_assume_1 : decode c_M_assume 1 = .ok (.aload_n 0, 1) := by decide +kernel
theorem d_M_assume_2 : decode c_M_assume 2 = .ok (.iload_n 1, 1) := by decide +kernel
theorem d_M_assume_3 : decode c_M_assume 3 = .ok (.invokevirtual 27, 3) := by decide +kernel
theorem d_M_assume_6 : decode c_M_assume 6 = .ok (.ifCond .ne 7, 3) := by decide +kernel
theorem d_M_assume_9 : decode c_M_assume 9 = .ok (.iconst 1, 1) := by decide +kernel
theorem d_M_assume_10 : decode c_M_assume 10 = .ok (.goto 17, 3) := by decide +kernel
theorem d_M_assume_13 : decode c_M_assume 13 = .ok (.aload_n 0, 1) := by decide +kernel
theorem d_M_assume_14 : decode c_M_assume 14 = .ok (.getfield 43, 3) := by decide +kernel
theorem d_M_assume_17 : decode c_M_assume 17 = .ok (.bipush 10, 2) := by decide +kernel
theorem d_M_assume_19 : decode c_M_assume 19 = .ok (.if_icmp .ne 7, 3) := by decide +kernel
theorem d_M_assume_22 : decode c_M_assume 22 = .ok (.iconst 2, 1) := by decide +kernel
theorem d_M_assume_23 : decode c_M_assume 23 = .ok (.goto 4, 3) := by decide +kernel
theorem d_M_assume_26 : decode c_M_assume 26 = .ok (.iconst 0, 1) := by decide +kernel
theorem d_M_assume_27 : decode c_M_assume 27 = .ok (.putfield 17, 3) := by decide +kernel
theorem d_M_assume_30 : decode c_M_assume 30 = .ok (.aload_n 0, 1) := by decide +kernel
theorem d_M_assume_31 : decode c_M_assume 31 = .ok (.getfield 17, 3) := by decide +kernel
theorem d_M_assume_34 : decode c_M_assume 34 = .ok (.ifCond .eq 4, 3) := by decide +kernel
theorem d_M_assume_37 : decode c_M_assume 37 = .ok (.return_, 1) := by decide +kernel
theorem d_M_assume_38 : decode c_M_assume 38 = .ok (.iload_n 1, 1) := by decide +kernel
theorem d_M_assume_39 : decode c_M_assume 39 = .ok (.ifCond .le 20, 3) := by decide +kernel
theorem d_M_assume_42 : decode c_M_assume 42 = .ok (.aload_n 0, 1) := by decide +kernel
theorem d_M_assume_43 : decode c_M_assume 43 = .ok (.dup, 1) := by decide +kernel
theorem d_M_assume_44 : decode c_M_assume 44 = .ok (.getfield 46, 3) := by decide +kernel
theorem d_M_assume_47 : decode c_M_assume 47 = .ok (.iconst 1, 1) := by decide +kernel
theorem d_M_assume_48 : decode c_M_assume 48 = .ok (.iload_n 1, 1) := by decide +kernel
theorem d_M_assume_49 : decode c_M_assume 49 = .ok (.iconst 1, 1) := by decide +kernel
theorem d_M_assume_50 : decode c_M_assume 50 = .ok (.isub, 1) := by decide +kernel
theorem d_M_assume_51 : decode c_M_assume 51 = .ok (.ishl, 1) := by decide +kernel
theorem d_M_assume_52 : decode c_M_assume 52 = .ok (.ior, 1) := by decide +kernel
theorem d_M_assume_53 : decode c_M_assume 53 = .ok (.putfield 46, 3) := by decide +kernel
theorem d_M_assume_56 : decode c_M_assume 56 = .ok (.goto 18, 3) := by decide +kernel
theorem d_M_assume_59 : decode c_M_assume 59 = .ok (.aload_n 0, 1) := by decide +kernel
theorem d_M_assume_60 : decode c_M_assume 60 = .ok (.dup, 1) := by decide +kernel
theorem d_M_assume_61 : decode c_M_assume 61 = .ok (.getfield 49, 3) := by decide +kernel
theorem d_M_assume_64 : decode c_M_assume 64 = .ok (.iconst 1, 1) := by decide +kernel
theorem d_M_assume_65 : decode c_M_assume 65 = .ok (.iload_n 1, 1) := by decide +kernel
theorem d_M_assume_66 : decode c_M_assume 66 = .ok (.ineg, 1) := by decide +kernel
theorem d_M_assume_67 : decode c_M_assume 67 = .ok (.iconst 1, 1) := by decide +kernel
theorem d_M_assume_68 : decode c_M_assume 68 = .ok (.isub, 1) := by decide +kernel
theorem d_M_assume_69 : decode c_M_assume 69 = .ok (.ishl, 1) := by decide +kernel
theorem d_M_assume_70 : decode c_M_assume 70 = .ok (.ior, 1) := by decide +kernel
theorem d_M_assume_71 : decode c_M_assume 71 = .ok (.putfield 49, 3) := by decide +kernel
theorem d_M_assume_74 : decode c_M_assume 74 = .ok (.aload_n 0, 1) := by decide +kernel
theorem d_M_assume_75 : decode c_M_assume 75 = .ok (.dup, 1) := by decide +kernel
theorem d_M_assume_76 : decode c_M_assume 76 = .ok (.getfield 43, 3) := by decide +kernel
theorem d_M_assume_79 : decode c_M_assume 79 = .ok (.iconst 1, 1) := by decide +kernel
theorem d_M_assume_80 : decode c_M_assume 80 = .ok (.iadd, 1) := by decide +kernel
theorem d_M_assume_81 : decode c_M_assume 81 = .ok (.putfield 43, 3) := by decide +kernel
theorem d_M_assume_84 : decode c_M_assume 84 = .ok (.return_, 1) := by decide +kernel
theorem d_M_values_0 : decode c_M_values 0 = .ok (.iconst 0, 1) := by decide +kernel
theorem d_M_values_1 : decode c_M_values 1 = .ok (.istore_n 2, 1) := by decide +kernel
theorem d_M_values_2 : decode c_M_values 2 = .ok (.iconst 0, 1) := by decide +kernel
theorem d_M_values_3 : decode c_M_values 3 = .ok (.istore_n 3, 1) := by decide +kernel
theorem d_M_values_4 : decode c_M_values 4 = .ok (.iload_n 3, 1) := by decide +kernel
theorem d_M_values_5 : decode c_M_values 5 = .ok (.aload_n 0, 1) := by decide +kernel
theorem d_M_values_6 : decode c_M_values 6 = .ok (.getfield 20, 3) := by decide +kernel
theorem d_M_values_9 : decode c_M_values 9 = .ok (.if_icmp .ge 19, 3) := by decide +kernel
theorem d_M_values_12 : decode c_M_values 12 = .ok (.iload_n 2, 1) := by decide +kernel
theorem d_M_values_13 : decode c_M_values 13 = .ok (.iconst 1, 1) := by decide +kernel
theorem d_M_values_14 : decode c_M_values 14 = .ok (.ishl, 1) := by decide +kernel
theorem d_M_values_15 : decode c_M_values 15 = .ok (.iload_n 1, 1) := by decide +kernel
theorem d_M_values_16 : decode c_M_values 16 = .ok (.iload_n 3, 1) := by decide +kernel
theorem d_M_values_17 : decode c_M_values 17 = .ok (.ishr, 1) := by decide +kernel
theorem d_M_values_18 : decode c_M_values 18 = .ok (.iconst 1, 1) := by decide +kernel
theorem d_M_values_19 : decode c_M_values 19 = .ok (.iand, 1) := by decide +kernel
theorem d_M_values_20 : decode c_M_values 20 = .ok (.ior, 1) := by decide +kernel
theorem d_M_values_21 : decode c_M_values 21 = .ok (.istore_n 2, 1) := by decide +kernel
theorem d_M_values_22 : decode c_M_values 22 = .ok (.iinc 3 1, 3) := by decide +kernel
theorem d_M_values_25 : decode c_M_values 25 = .ok (.goto (-21), 3) := by decide +kernel
theorem d_M_values_28 : decode c_M_values 28 = .ok (.iload_n 2, 1) := by decide +kernel
theorem d_M_values_29 : decode c_M_values 29 = .ok (.ireturn, 1) := by decide +kernel
theorem d_M_isTrue_0 : decode c_M_isTrue 0 = .ok (.aload_n 0, 1) := by decide +kernel
theorem d_M_isTrue_1 : decode c_M_isTrue 1 = .ok (.iload_n 2, 1) := by decide +kernel
theorem d_M_isTrue_2 : decode c_M_isTrue 2 = .ok (.invokevirtual 52, 3) := by decide +kernel
theorem d_M_isTrue_5 : decode c_M_isTrue 5 = .ok (.iload_n 1, 1) := by decide +kernel
theorem d_M_isTrue_6 : decode c_M_isTrue 6 = .ok (.ifCond .ge 8, 3) := by decide +kernel
theorem d_M_isTrue_9 : decode c_M_isTrue 9 = .ok (.iload_n 1, 1) := by decide +kernel
theorem d_M_isTrue_10 : decode c_M_isTrue 10 = .ok (.ineg, 1) := by decide +kernel
theorem d_M_isTrue_11 : decode c_M_isTrue 11 = .ok (.goto 4, 3) := by decide +kernel
theorem d_M_isTrue_14 : decode c_M_isTrue 14 = .ok (.iload_n 1, 1) := by decide +kernel
theorem d_M_isTrue_15 : decode c_M_isTrue 15 = .ok (.iconst 1, 1) := by decide +kernel
theorem d_M_isTrue_16 : decode c_M_isTrue 16 = .ok (.isub, 1) := by decide +kernel
theorem d_M_isTrue_17 : decode c_M_isTrue 17 = .ok (.ishr, 1) := by decide +kernel
theorem d_M_isTrue_18 : decode c_M_isTrue 18 = .ok (.iconst 1, 1) := by decide +kernel
theorem d_M_isTrue_19 : decode c_M_isTrue 19 = .ok (.iand, 1) := by decide +kernel
theorem d_M_isTrue_20 : decode c_M_isTrue 20 = .ok (.ifCond .eq 7, 3) := by decide +kernel
theorem d_M_isTrue_23 : decode c_M_isTrue 23 = .ok (.iconst 1, 1) := by decide +kernel
theorem d_M_isTrue_24 : decode c_M_isTrue 24 = .ok (.goto 4, 3) := by decide +kernel
theorem d_M_isTrue_27 : decode c_M_isTrue 27 = .ok (.iconst 0, 1) := by decide +kernel
theorem d_M_isTrue_28 : decode c_M_isTrue 28 = .ok (.iload_n 1, 1) := by decide +kernel
theorem d_M_isTrue_29 : decode c_M_isTrue 29 = .ok (.ifCond .le 7, 3) := by decide +kernel
theorem d_M_isTrue_32 : decode c_M_isTrue 32 = .ok (.iconst 1, 1) := by decide +kernel
theorem d_M_isTrue_33 : decode c_M_isTrue 33 = .ok (.goto 4, 3) := by decide +kernel
theorem d_M_isTrue_36 : decode c_M_isTrue 36 = .ok (.iconst 0, 1) := by decide +kernel
theorem d_M_isTrue_37 : decode c_M_isTrue 37 = .ok (.if_icmp .ne 7, 3) := by decide +kernel
theorem d_M_isTrue_40 : decode c_M_isTrue 40 = .ok (.iconst 1, 1) := by decide +kernel
theorem d_M_isTrue_41 : decode c_M_isTrue 41 = .ok (.goto 4, 3) := by decide +kernel
theorem d_M_isTrue_44 : decode c_M_isTrue 44 = .ok (.iconst 0, 1) := by decide +kernel
theorem d_M_isTrue_45 : decode c_M_isTrue 45 = .ok (.ireturn, 1) := by decide +kernel
theorem d_M_isModel_0 : decode c_M_isModel 0 = .ok (.aload_n 0, 1) := by decide +kernel
theorem d_M_isModel_1 : decode c_M_isModel 1 = .ok (.iload_n 1, 1) := by decide +kernel
theorem d_M_isModel_2 : decode c_M_isModel 2 = .ok (.invokevirtual 52, 3) := by decide +kernel
theorem d_M_isModel_5 : decode c_M_isModel 5 = .ok (.istore_n 2, 1) := by decide +kernel
theorem d_M_isModel_6 : decode c_M_isModel 6 = .ok (.aload_n 0, 1) := by decide +kernel
theorem d_M_isModel_7 : decode c_M_isModel 7 = .ok (.getfield 13, 3) := by decide +kernel
theorem d_M_isModel_10 : decode c_M_isModel 10 = .ok (.iload_n 2, 1) := by decide +kernel
theorem d_M_isModel_11 : decode c_M_isModel 11 = .ok (.baload, 1) := by decide +kernel
theorem d_M_isModel_12 : decode c_M_isModel 12 = .ok (.ifCond .ne 29, 3) := by decide +kernel
theorem d_M_isModel_15 : decode c_M_isModel 15 = .ok (.iload_n 2, 1) := by decide +kernel
theorem d_M_isModel_16 : decode c_M_isModel 16 = .ok (.aload_n 0, 1) := by decide +kernel
theorem d_M_isModel_17 : decode c_M_isModel 17 = .ok (.getfield 46, 3) := by decide +kernel
theorem d_M_isModel_20 : decode c_M_isModel 20 = .ok (.iand, 1) := by decide +kernel
theorem d_M_isModel_21 : decode c_M_isModel 21 = .ok (.aload_n 0, 1) := by decide +kernel
theorem d_M_isModel_22 : decode c_M_isModel 22 = .ok (.getfield 46, 3) := by decide +kernel
theorem d_M_isModel_25 : decode c_M_isModel 25 = .ok (.if_icmp .ne 16, 3) := by decide +kernel
theorem d_M_isModel_28 : decode c_M_isModel 28 = .ok (.iload_n 2, 1) := by decide +kernel
theorem d_M_isModel_29 : decode c_M_isModel 29 = .ok (.aload_n 0, 1) := by decide +kernel
theorem d_M_isModel_30 : decode c_M_isModel 30 = .ok (.getfield 49, 3) := by decide +kernel
theorem d_M_isModel_33 : decode c_M_isModel 33 = .ok (.iand, 1) := by decide +kernel
theorem d_M_isModel_34 : decode c_M_isModel 34 = .ok (.ifCond .ne 7, 3) := by decide +kernel
theorem d_M_isModel_37 : decode c_M_isModel 37 = .ok (.iconst 1, 1) := by decide +kernel
theorem d_M_isModel_38 : decode c_M_isModel 38 = .ok (.goto 4, 3) := by decide +kernel
theorem d_M_isModel_41 : decode c_M_isModel 41 = .ok (.iconst 0, 1) := by decide +kernel
theorem d_M_isModel_42 : decode c_M_isModel 42 = .ok (.ireturn, 1) := by decide +kernel
theorem d_M_forget_0 : decode c_M_forget 0 = .ok (.aload_n 0, 1) := by decide +kernel
theorem d_M_forget_1 : decode c_M_forget 1 = .ok (.iconst 0, 1) := by decide +kernel
theorem d_M_forget_2 : decode c_M_forget 2 = .ok (.putfield 43, 3) := by decide +kernel
theorem d_M_forget_5 : decode c_M_forget 5 = .ok (.aload_n 0, 1) := by decide +kernel
theorem d_M_forget_6 : decode c_M_forget 6 = .ok (.iconst 0, 1) := by decide +kernel
theorem d_M_forget_7 : decode c_M_forget 7 = .ok (.putfield 46, 3) := by decide +kernel
theorem d_M_forget_10 : decode c_M_forget 10 = .ok (.aload_n 0, 1) := by decide +kernel
theorem d_M_forget_11 : decode c_M_forget 11 = .ok (.iconst 0, 1) := by decide +kernel
theorem d_M_forget_12 : decode c_M_forget 12 = .ok (.putfield 49, 3) := by decide +kernel
theorem d_M_forget_15 : decode c_M_forget 15 = .ok (.return_, 1) := by decide +kernel
theorem d_M_solve_0 : decode c_M_solve 0 = .ok (.aload_n 0, 1) := by decide +kernel
theorem d_M_solve_1 : decode c_M_solve 1 = .ok (.iconst 0, 1) := by decide +kernel
theorem d_M_solve_2 : decode c_M_solve 2 = .ok (.putfield 17, 3) := by decide +kernel
theorem d_M_solve_5 : decode c_M_solve 5 = .ok (.aload_n 0, 1) := by decide +kernel
theorem d_M_solve_6 : decode c_M_solve 6 = .ok (.iconst (-1), 1) := by decide +kernel
theorem d_M_solve_7 : decode c_M_solve 7 = .ok (.putfield 7, 3) := by decide +kernel
theorem d_M_solve_10 : decode c_M_solve 10 = .ok (.aload_n 0, 1) := by decide +kernel
theorem d_M_solve_11 : decode c_M_solve 11 = .ok (.aload_n 0, 1) := by decide +kernel
theorem d_M_solve_12 : decode c_M_solve 12 = .ok (.getfield 20, 3) := by decide +kernel
theorem d_M_solve_15 : decode c_M_solve 15 = .ok (.putfield 55, 3) := by decide +kernel
theorem d_M_solve_18 : decode c_M_solve 18 = .ok (.iconst 0, 1) := by decide +kernel
theorem d_M_solve_19 : decode c_M_solve 19 = .ok (.istore_n 1, 1) := by decide +kernel
theorem d_M_solve_20 : decode c_M_solve 20 = .ok (.iload_n 1, 1) := by decide +kernel
theorem d_M_solve_21 : decode c_M_solve 21 = .ok (.iconst 1, 1) := by decide +kernel
theorem d_M_solve_22 : decode c_M_solve 22 = .ok (.aload_n 0, 1) := by decide +kernel
theorem d_M_solve_23 : decode c_M_solve 23 = .ok (.getfield 20, 3) := by decide +kernel
theorem d_M_solve_26 : decode c_M_solve 26 = .ok (.ishl, 1) := by decide +kernel
theorem d_M_solve_27 : decode c_M_solve 27 = .ok (.if_icmp .ge 29, 3) := by decide +kernel
theorem d_M_solve_30 : decode c_M_solve 30 = .ok (.aload_n 0, 1) := by decide +kernel
theorem d_M_solve_31 : decode c_M_solve 31 = .ok (.getfield 7, 3) := by decide +kernel
theorem d_M_solve_34 : decode c_M_solve 34 = .ok (.ifCond .ge 22, 3) := by decide +kernel
theorem d_M_solve_37 : decode c_M_solve 37 = .ok (.aload_n 0, 1) := by decide +kernel
theorem d_M_solve_38 : decode c_M_solve 38 = .ok (.iload_n 1, 1) := by decide +kernel
theorem d_M_solve_39 : decode c_M_solve 39 = .ok (.invokevirtual 58, 3) := by decide +kernel
theorem d_M_solve_42 : decode c_M_solve 42 = .ok (.ifCond .eq 8, 3) := by decide +kernel
theorem d_M_solve_45 : decode c_M_solve 45 = .ok (.aload_n 0, 1) := by decide +kernel
theorem d_M_solve_46 : decode c_M_solve 46 = .ok (.iload_n 1, 1) := by decide +kernel
theorem d_M_solve_47 : decode c_M_solve 47 = .ok (.putfield 7, 3) := by decide +kernel
theorem d_M_solve_50 : decode c_M_solve 50 = .ok (.iinc 1 1, 3) := by decide +kernel
theorem d_M_solve_53 : decode c_M_solve 53 = .ok (.goto (-33), 3) := by decide +kernel
theorem d_M_solve_56 : decode c_M_solve 56 = .ok (.aload_n 0, 1) := by decide +kernel
theorem d_M_solve_57 : decode c_M_solve 57 = .ok (.invokevirtual 61, 3) := by decide +kernel
theorem d_M_solve_60 : decode c_M_solve 60 = .ok (.aload_n 0, 1) := by decide +kernel
theorem d_M_solve_61 : decode c_M_solve 61 = .ok (.getfield 7, 3) := by decide +kernel
theorem d_M_solve_64 : decode c_M_solve 64 = .ok (.ifCond .lt 7, 3) := by decide +kernel
theorem d_M_solve_67 : decode c_M_solve 67 = .ok (.iconst 1, 1) := by decide +kernel
theorem d_M_solve_68 : decode c_M_solve 68 = .ok (.goto 4, 3) := by decide +kernel
theorem d_M_solve_71 : decode c_M_solve 71 = .ok (.iconst 0, 1) := by decide +kernel
theorem d_M_solve_72 : decode c_M_solve 72 = .ok (.ireturn, 1) := by decide +kernel
theorem d_M_follows_0 : decode c_M_follows 0 = .ok (.aload_n 0, 1) := by decide +kernel
theorem d_M_follows_1 : decode c_M_follows 1 = .ok (.iload_n 1, 1) := by decide +kernel
theorem d_M_follows_2 : decode c_M_follows 2 = .ok (.invokevirtual 27, 3) := by decide +kernel
theorem d_M_follows_5 : decode c_M_follows 5 = .ok (.ifCond .ne 10, 3) := by decide +kernel
theorem d_M_follows_8 : decode c_M_follows 8 = .ok (.aload_n 0, 1) := by decide +kernel
theorem d_M_follows_9 : decode c_M_follows 9 = .ok (.iconst 1, 1) := by decide +kernel
theorem d_M_follows_10 : decode c_M_follows 10 = .ok (.putfield 17, 3) := by decide +kernel
theorem d_M_follows_13 : decode c_M_follows 13 = .ok (.iconst 0, 1) := by decide +kernel
theorem d_M_follows_14 : decode c_M_follows 14 = .ok (.ireturn, 1) := by decide +kernel
theorem d_M_follows_15 : decode c_M_follows 15 = .ok (.aload_n 0, 1) := by decide +kernel
theorem d_M_follows_16 : decode c_M_follows 16 = .ok (.iconst 0, 1) := by decide +kernel
theorem d_M_follows_17 : decode c_M_follows 17 = .ok (.putfield 17, 3) := by decide +kernel
theorem d_M_follows_20 : decode c_M_follows 20 = .ok (.iconst 1, 1) := by decide +kernel
theorem d_M_follows_21 : decode c_M_follows 21 = .ok (.istore_n 2, 1) := by decide +kernel
theorem d_M_follows_22 : decode c_M_follows 22 = .ok (.iconst 0, 1) := by decide +kernel
theorem d_M_follows_23 : decode c_M_follows 23 = .ok (.istore_n 3, 1) := by decide +kernel
theorem d_M_follows_24 : decode c_M_follows 24 = .ok (.iload_n 3, 1) := by decide +kernel
theorem d_M_follows_25 : decode c_M_follows 25 = .ok (.iconst 1, 1) := by decide +kernel
theorem d_M_follows_26 : decode c_M_follows 26 = .ok (.aload_n 0, 1) := by decide +kernel
theorem d_M_follows_27 : decode c_M_follows 27 = .ok (.getfield 20, 3) := by decide +kernel
theorem d_M_follows_30 : decode c_M_follows 30 = .ok (.ishl, 1) := by decide +kernel
theorem d_M_follows_31 : decode c_M_follows 31 = .ok (.if_icmp .ge 28, 3) := by decide +kernel
theorem d_M_follows_34 : decode c_M_follows 34 = .ok (.aload_n 0, 1) := by decide +kernel
theorem d_M_follows_35 : decode c_M_follows 35 = .ok (.iload_n 3, 1) := by decide +kernel
theorem d_M_follows_36 : decode c_M_follows 36 = .ok (.invokevirtual 58, 3) := by decide +kernel
theorem d_M_follows_39 : decode c_M_follows 39 = .ok (.ifCond .eq 14, 3) := by decide +kernel
theorem d_M_follows_42 : decode c_M_follows 42 = .ok (.aload_n 0, 1) := by decide +kernel
theorem d_M_follows_43 : decode c_M_follows 43 = .ok (.iload_n 1, 1) := by decide +kernel
theorem d_M_follows_44 : decode c_M_follows 44 = .ok (.iload_n 3, 1) := by decide +kernel
theorem d_M_follows_45 : decode c_M_follows 45 = .ok (.invokevirtual 64, 3) := by decide +kernel
theorem d_M_follows_48 : decode c_M_follows 48 = .ok (.ifCond .ne 5, 3) := by decide +kernel
theorem d_M_follows_51 : decode c_M_follows 51 = .ok (.iconst 0, 1) := by decide +kernel
theorem d_M_follows_52 : decode c_M_follows 52 = .ok (.istore_n 2, 1) := by decide +kernel
theorem d_M_follows_53 : decode c_M_follows 53 = .ok (.iinc 3 1, 3) := by decide +kernel
theorem d_M_follows_56 : decode c_M_follows 56 = .ok (.goto (-32), 3) := by decide +kernel
theorem d_M_follows_59 : decode c_M_follows 59 = .ok (.aload_n 0, 1) := by decide +kernel
theorem d_M_follows_60 : decode c_M_follows 60 = .ok (.invokevirtual 61, 3) := by decide +kernel
theorem d_M_follows_63 : decode c_M_follows 63 = .ok (.aload_n 0, 1) := by decide +kernel
theorem d_M_follows_64 : decode c_M_follows 64 = .ok (.iconst (-1), 1) := by decide +kernel
theorem d_M_follows_65 : decode c_M_follows 65 = .ok (.putfield 7, 3) := by decide +kernel
theorem d_M_follows_68 : decode c_M_follows 68 = .ok (.iload_n 2, 1) := by decide +kernel
theorem d_M_follows_69 : decode c_M_follows 69 = .ok (.ireturn, 1) := by decide +kernel
theorem d_M_models_0 : decode c_M_models 0 = .ok (.aload_n 0, 1) := by decide +kernel
theorem d_M_models_1 : decode c_M_models 1 = .ok (.iconst 0, 1) := by decide +kernel
theorem d_M_models_2 : decode c_M_models 2 = .ok (.putfield 17, 3) := by decide +kernel
theorem d_M_models_5 : decode c_M_models 5 = .ok (.iconst 0, 1) := by decide +kernel
theorem d_M_models_6 : decode c_M_models 6 = .ok (.istore_n 1, 1) := by decide +kernel
theorem d_M_models_7 : decode c_M_models 7 = .ok (.iconst 0, 1) := by decide +kernel
theorem d_M_models_8 : decode c_M_models 8 = .ok (.istore_n 2, 1) := by decide +kernel
theorem d_M_models_9 : decode c_M_models 9 = .ok (.iload_n 2, 1) := by decide +kernel
theorem d_M_models_10 : decode c_M_models 10 = .ok (.iconst 1, 1) := by decide +kernel
theorem d_M_models_11 : decode c_M_models 11 = .ok (.aload_n 0, 1) := by decide +kernel
theorem d_M_models_12 : decode c_M_models 12 = .ok (.getfield 20, 3) := by decide +kernel
theorem d_M_models_15 : decode c_M_models 15 = .ok (.ishl, 1) := by decide +kernel
theorem d_M_models_16 : decode c_M_models 16 = .ok (.if_icmp .ge 26, 3) := by decide +kernel
theorem d_M_models_19 : decode c_M_models 19 = .ok (.iload_n 1, 1) := by decide +kernel
theorem d_M_models_20 : decode c_M_models 20 = .ok (.bipush 40, 2) := by decide +kernel
theorem d_M_models_22 : decode c_M_models 22 = .ok (.if_icmp .ge 20, 3) := by decide +kernel
theorem d_M_models_25 : decode c_M_models 25 = .ok (.aload_n 0, 1) := by decide +kernel
theorem d_M_models_26 : decode c_M_models 26 = .ok (.iload_n 2, 1) := by decide +kernel
theorem d_M_models_27 : decode c_M_models 27 = .ok (.invokevirtual 58, 3) := by decide +kernel
theorem d_M_models_30 : decode c_M_models 30 = .ok (.ifCond .eq 6, 3) := by decide +kernel
theorem d_M_models_33 : decode c_M_models 33 = .ok (.iinc 1 1, 3) := by decide +kernel
theorem d_M_models_36 : decode c_M_models 36 = .ok (.iinc 2 1, 3) := by decide +kernel
theorem d_M_models_39 : decode c_M_models 39 = .ok (.goto (-30), 3) := by decide +kernel
theorem d_M_models_42 : decode c_M_models 42 = .ok (.aload_n 0, 1) := by decide +kernel
theorem d_M_models_43 : decode c_M_models 43 = .ok (.invokevirtual 61, 3) := by decide +kernel
theorem d_M_models_46 : decode c_M_models 46 = .ok (.aload_n 0, 1) := by decide +kernel
theorem d_M_models_47 : decode c_M_models 47 = .ok (.iconst (-1), 1) := by decide +kernel
theorem d_M_models_48 : decode c_M_models 48 = .ok (.putfield 7, 3) := by decide +kernel
theorem d_M_models_51 : decode c_M_models 51 = .ok (.iload_n 1, 1) := by decide +kernel
theorem d_M_models_52 : decode c_M_models 52 = .ok (.ireturn, 1) := by decide +kernel
theorem d_M_value_0 : decode c_M_value 0 = .ok (.aload_n 0, 1) := by decide +kernel
theorem d_M_value_1 : decode c_M_value 1 = .ok (.iload_n 1, 1) := by decide +kernel
theorem d_M_value_2 : decode c_M_value 2 = .ok (.iconst 1, 1) := by decide +kernel
theorem d_M_value_3 : decode c_M_value 3 = .ok (.if_icmp .lt 11, 3) := by decide +kernel
theorem d_M_value_6 : decode c_M_value 6 = .ok (.iload_n 1, 1) := by decide +kernel
theorem d_M_value_7 : decode c_M_value 7 = .ok (.aload_n 0, 1) := by decide +kernel
theorem d_M_value_8 : decode c_M_value 8 = .ok (.getfield 20, 3) := by decide +kernel
theorem d_M_value_11 : decode c_M_value 11 = .ok (.if_icmp .le 7, 3) := by decide +kernel
theorem d_M_value_14 : decode c_M_value 14 = .ok (.iconst 1, 1) := by decide +kernel
theorem d_M_value_15 : decode c_M_value 15 = .ok (.goto 15, 3) := by decide +kernel
theorem d_M_value_18 : decode c_M_value 18 = .ok (.aload_n 0, 1) := by decide +kernel
theorem d_M_value_19 : decode c_M_value 19 = .ok (.getfield 7, 3) := by decide +kernel
theorem d_M_value_22 : decode c_M_value 22 = .ok (.ifCond .ge 7, 3) := by decide +kernel
theorem d_M_value_25 : decode c_M_value 25 = .ok (.iconst 2, 1) := by decide +kernel
theorem d_M_value_26 : decode c_M_value 26 = .ok (.goto 4, 3) := by decide +kernel
theorem d_M_value_29 : decode c_M_value 29 = .ok (.iconst 0, 1) := by decide +kernel
theorem d_M_value_30 : decode c_M_value 30 = .ok (.putfield 17, 3) := by decide +kernel
theorem d_M_value_33 : decode c_M_value 33 = .ok (.aload_n 0, 1) := by decide +kernel
theorem d_M_value_34 : decode c_M_value 34 = .ok (.getfield 17, 3) := by decide +kernel
theorem d_M_value_37 : decode c_M_value 37 = .ok (.ifCond .ne 31, 3) := by decide +kernel
theorem d_M_value_40 : decode c_M_value 40 = .ok (.iload_n 1, 1) := by decide +kernel
theorem d_M_value_41 : decode c_M_value 41 = .ok (.aload_n 0, 1) := by decide +kernel
theorem d_M_value_42 : decode c_M_value 42 = .ok (.getfield 55, 3) := by decide +kernel
theorem d_M_value_45 : decode c_M_value 45 = .ok (.if_icmp .gt 23, 3) := by decide +kernel
theorem d_M_value_48 : decode c_M_value 48 = .ok (.aload_n 0, 1) := by decide +kernel
theorem d_M_value_49 : decode c_M_value 49 = .ok (.getfield 7, 3) := by decide +kernel
theorem d_M_value_52 : decode c_M_value 52 = .ok (.aload_n 0, 1) := by decide +kernel
theorem d_M_value_53 : decode c_M_value 53 = .ok (.getfield 55, 3) := by decide +kernel
theorem d_M_value_56 : decode c_M_value 56 = .ok (.iload_n 1, 1) := by decide +kernel
theorem d_M_value_57 : decode c_M_value 57 = .ok (.isub, 1) := by decide +kernel
theorem d_M_value_58 : decode c_M_value 58 = .ok (.ishr, 1) := by decide +kernel
theorem d_M_value_59 : decode c_M_value 59 = .ok (.iconst 1, 1) := by decide +kernel
theorem d_M_value_60 : decode c_M_value 60 = .ok (.iand, 1) := by decide +kernel
theorem d_M_value_61 : decode c_M_value 61 = .ok (.ifCond .eq 7, 3) := by decide +kernel
theorem d_M_value_64 : decode c_M_value 64 = .ok (.iconst 1, 1) := by decide +kernel
theorem d_M_value_65 : decode c_M_value 65 = .ok (.goto 4, 3) := by decide +kernel
theorem d_M_value_68 : decode c_M_value 68 = .ok (.iconst 0, 1) := by decide +kernel
theorem d_M_value_69 : decode c_M_value 69 = .ok (.ireturn, 1) := by decide +kernel
theorem d_M_count_0 : decode c_M_count 0 = .ok (.aload_n 0, 1) := by decide +kernel
theorem d_M_count_1 : decode c_M_count 1 = .ok (.iconst 0, 1) := by decide +kernel
theorem d_M_count_2 : decode c_M_count 2 = .ok (.putfield 17, 3) := by decide +kernel
theorem d_M_count_5 : decode c_M_count 5 = .ok (.iload_n 1, 1) := by decide +kernel
theorem d_M_count_6 : decode c_M_count 6 = .ok (.tableswitch 73 0 5 #[38, 43, 48, 53, 58, 71], 38) := by decide +kernel
theorem d_M_count_44 : decode c_M_count 44 = .ok (.aload_n 0, 1) := by decide +kernel
theorem d_M_count_45 : decode c_M_count 45 = .ok (.getfield 20, 3) := by decide +kernel
theorem d_M_count_48 : decode c_M_count 48 = .ok (.ireturn, 1) := by decide +kernel
theorem d_M_count_49 : decode c_M_count 49 = .ok (.aload_n 0, 1) := by decide +kernel
theorem d_M_count_50 : decode c_M_count 50 = .ok (.getfield 40, 3) := by decide +kernel
theorem d_M_count_53 : decode c_M_count 53 = .ok (.ireturn, 1) := by decide +kernel
theorem d_M_count_54 : decode c_M_count 54 = .ok (.aload_n 0, 1) := by decide +kernel
theorem d_M_count_55 : decode c_M_count 55 = .ok (.getfield 31, 3) := by decide +kernel
theorem d_M_count_58 : decode c_M_count 58 = .ok (.ireturn, 1) := by decide +kernel
theorem d_M_count_59 : decode c_M_count 59 = .ok (.aload_n 0, 1) := by decide +kernel
theorem d_M_count_60 : decode c_M_count 60 = .ok (.getfield 43, 3) := by decide +kernel
theorem d_M_count_63 : decode c_M_count 63 = .ok (.ireturn, 1) := by decide +kernel
theorem d_M_count_64 : decode c_M_count 64 = .ok (.aload_n 0, 1) := by decide +kernel
theorem d_M_count_65 : decode c_M_count 65 = .ok (.getfield 7, 3) := by decide +kernel
theorem d_M_count_68 : decode c_M_count 68 = .ok (.ifCond .lt 7, 3) := by decide +kernel
theorem d_M_count_71 : decode c_M_count 71 = .ok (.iconst 1, 1) := by decide +kernel
theorem d_M_count_72 : decode c_M_count 72 = .ok (.goto 4, 3) := by decide +kernel
theorem d_M_count_75 : decode c_M_count 75 = .ok (.iconst 0, 1) := by decide +kernel
theorem d_M_count_76 : decode c_M_count 76 = .ok (.ireturn, 1) := by decide +kernel
theorem d_M_count_77 : decode c_M_count 77 = .ok (.iconst 0, 1) := by decide +kernel
theorem d_M_count_78 : decode c_M_count 78 = .ok (.ireturn, 1) := by decide +kernel
theorem d_M_count_79 : decode c_M_count 79 = .ok (.iconst (-1), 1) := by decide +kernel
theorem d_M_count_80 : decode c_M_count 80 = .ok (.ireturn, 1) := by decide +kernel
end
section
/-! decode rows, by program -/
theorem d_W_variable_0 : decode c_W_variable 0 = .ok (.aload_n 1, 1) := by decide +kernel
theorem d_W_variable_1 : decode c_W_variable 1 = .ok (.iconst 0, 1) := by decide +kernel
theorem d_W_variable_2 : decode c_W_variable 2 = .ok (.aload_n 0, 1) := by decide +kernel
theorem d_W_variable_3 : decode c_W_variable 3 = .ok (.invokevirtual 7, 3) := by decide +kernel
theorem d_W_variable_6 : decode c_W_variable 6 = .ok (.i2l, 1) := by decide +kernel
theorem d_W_variable_7 : decode c_W_variable 7 = .ok (.lastore, 1) := by decide +kernel
theorem d_W_variable_8 : decode c_W_variable 8 = .ok (.goto 6, 3) := by decide +kernel
theorem d_W_variable_11 : decode c_W_variable 11 = .ok (.astore_n 2, 1) := by decide +kernel
theorem d_W_variable_12 : decode c_W_variable 12 = .ok (.iconst 1, 1) := by decide +kernel
theorem d_W_variable_13 : decode c_W_variable 13 = .ok (.ireturn, 1) := by decide +kernel
theorem d_W_variable_14 : decode c_W_variable 14 = .ok (.iconst 0, 1) := by decide +kernel
theorem d_W_variable_15 : decode c_W_variable 15 = .ok (.ireturn, 1) := by decide +kernel
theorem d_W_literal_0 : decode c_W_literal 0 = .ok (.aload_n 0, 1) := by decide +kernel
theorem d_W_literal_1 : decode c_W_literal 1 = .ok (.iload_n 1, 1) := by decide +kernel
theorem d_W_literal_2 : decode c_W_literal 2 = .ok (.invokevirtual 15, 3) := by decide +kernel
theorem d_W_literal_5 : decode c_W_literal 5 = .ok (.goto 9, 3) := by decide +kernel
theorem d_W_literal_8 : decode c_W_literal 8 = .ok (.astore_n 2, 1) := by decide +kernel
theorem d_W_literal_9 : decode c_W_literal 9 = .ok (.iconst 1, 1) := by decide +kernel
theorem d_W_literal_10 : decode c_W_literal 10 = .ok (.ireturn, 1) := by decide +kernel
theorem d_W_literal_11 : decode c_W_literal 11 = .ok (.astore_n 2, 1) := by decide +kernel
theorem d_W_literal_12 : decode c_W_literal 12 = .ok (.iconst 2, 1) := by decide +kernel
theorem d_W_literal_13 : decode c_W_literal 13 = .ok (.ireturn, 1) := by decide +kernel
theorem d_W_literal_14 : decode c_W_literal 14 = .ok (.iconst 0, 1) := by decide +kernel
theorem d_W_literal_15 : decode c_W_literal 15 = .ok (.ireturn, 1) := by decide +kernel
theorem d_W_close_0 : decode c_W_close 0 = .ok (.aload_n 1, 1) := by decide +kernel
theorem d_W_close_1 : decode c_W_close 1 = .ok (.iconst 0, 1) := by decide +kernel
theorem d_W_close_2 : decode c_W_close 2 = .ok (.aload_n 0, 1) := by decide +kernel
theorem d_W_close_3 : decode c_W_close 3 = .ok (.invokevirtual 21, 3) := by decide +kernel
theorem d_W_close_6 : decode c_W_close 6 = .ok (.i2l, 1) := by decide +kernel
theorem d_W_close_7 : decode c_W_close 7 = .ok (.lastore, 1) := by decide +kernel
theorem d_W_close_8 : decode c_W_close 8 = .ok (.goto 6, 3) := by decide +kernel
theorem d_W_close_11 : decode c_W_close 11 = .ok (.astore_n 2, 1) := by decide +kernel
theorem d_W_close_12 : decode c_W_close 12 = .ok (.iconst 1, 1) := by decide +kernel
theorem d_W_close_13 : decode c_W_close 13 = .ok (.ireturn, 1) := by decide +kernel
theorem d_W_close_14 : decode c_W_close 14 = .ok (.iconst 0, 1) := by decide +kernel
theorem d_W_close_15 : decode c_W_close 15 = .ok (.ireturn, 1) := by decide +kernel
theorem d_W_assume_0 : decode c_W_assume 0 = .ok (.aload_n 0, 1) := by decide +kernel
theorem d_W_assume_1 : decode c_W_assume 1 = .ok (.iload_n 1, 1) := by decide +kernel
theorem d_W_assume_2 : decode c_W_assume 2 = .ok (.invokevirtual 24, 3) := by decide +kernel
theorem d_W_assume_5 : decode c_W_assume 5 = .ok (.goto 9, 3) := by decide +kernel
theorem d_W_assume_8 : decode c_W_assume 8 = .ok (.astore_n 2, 1) := by decide +kernel
theorem d_W_assume_9 : decode c_W_assume 9 = .ok (.iconst 1, 1) := by decide +kernel
theorem d_W_assume_10 : decode c_W_assume 10 = .ok (.ireturn, 1) := by decide +kernel
theorem d_W_assume_11 : decode c_W_assume 11 = .ok (.astore_n 2, 1) := by decide +kernel
theorem d_W_assume_12 : decode c_W_assume 12 = .ok (.iconst 2, 1) := by decide +kernel
theorem d_W_assume_13 : decode c_W_assume 13 = .ok (.ireturn, 1) := by decide +kernel
theorem d_W_assume_14 : decode c_W_assume 14 = .ok (.iconst 0, 1) := by decide +kernel
theorem d_W_assume_15 : decode c_W_assume 15 = .ok (.ireturn, 1) := by decide +kernel
theorem d_W_follows_0 : decode c_W_follows 0 = .ok (.aload_n 2, 1) := by decide +kernel
theorem d_W_follows_1 : decode c_W_follows 1 = .ok (.iconst 0, 1) := by decide +kernel
theorem d_W_follows_2 : decode c_W_follows 2 = .ok (.aload_n 0, 1) := by decide +kernel
theorem d_W_follows_3 : decode c_W_follows 3 = .ok (.iload_n 1, 1) := by decide +kernel
theorem d_W_follows_4 : decode c_W_follows 4 = .ok (.invokevirtual 27, 3) := by decide +kernel
theorem d_W_follows_7 : decode c_W_follows 7 = .ok (.ifCond .eq 7, 3) := by decide +kernel
theorem d_W_follows_10 : decode c_W_follows 10 = .ok (.lconst 1, 1) := by decide +kernel
theorem d_W_follows_11 : decode c_W_follows 11 = .ok (.goto 4, 3) := by decide +kernel
theorem d_W_follows_14 : decode c_W_follows 14 = .ok (.lconst 0, 1) := by decide +kernel
theorem d_W_follows_15 : decode c_W_follows 15 = .ok (.lastore, 1) := by decide +kernel
theorem d_W_follows_16 : decode c_W_follows 16 = .ok (.goto 6, 3) := by decide +kernel
theorem d_W_follows_19 : decode c_W_follows 19 = .ok (.astore_n 3, 1) := by decide +kernel
theorem d_W_follows_20 : decode c_W_follows 20 = .ok (.iconst 1, 1) := by decide +kernel
theorem d_W_follows_21 : decode c_W_follows 21 = .ok (.ireturn, 1) := by decide +kernel
theorem d_W_follows_22 : decode c_W_follows 22 = .ok (.iconst 0, 1) := by decide +kernel
theorem d_W_follows_23 : decode c_W_follows 23 = .ok (.ireturn, 1) := by decide +kernel
theorem d_W_value_0 : decode c_W_value 0 = .ok (.aload_n 2, 1) := by decide +kernel
theorem d_W_value_1 : decode c_W_value 1 = .ok (.iconst 0, 1) := by decide +kernel
theorem d_W_value_2 : decode c_W_value 2 = .ok (.aload_n 0, 1) := by decide +kernel
theorem d_W_value_3 : decode c_W_value 3 = .ok (.iload_n 1, 1) := by decide +kernel
theorem d_W_value_4 : decode c_W_value 4 = .ok (.invokevirtual 31, 3) := by decide +kernel
theorem d_W_value_7 : decode c_W_value 7 = .ok (.ifCond .eq 7, 3) := by decide +kernel
theorem d_W_value_10 : decode c_W_value 10 = .ok (.lconst 1, 1) := by decide +kernel
theorem d_W_value_11 : decode c_W_value 11 = .ok (.goto 4, 3) := by decide +kernel
theorem d_W_value_14 : decode c_W_value 14 = .ok (.lconst 0, 1) := by decide +kernel
theorem d_W_value_15 : decode c_W_value 15 = .ok (.lastore, 1) := by decide +kernel
theorem d_W_value_16 : decode c_W_value 16 = .ok (.goto 9, 3) := by decide +kernel
theorem d_W_value_19 : decode c_W_value 19 = .ok (.astore_n 3, 1) := by decide +kernel
theorem d_W_value_20 : decode c_W_value 20 = .ok (.iconst 1, 1) := by decide +kernel
theorem d_W_value_21 : decode c_W_value 21 = .ok (.ireturn, 1) := by decide +kernel
theorem d_W_value_22 : decode c_W_value 22 = .ok (.astore_n 3, 1) := by decide +kernel
theorem d_W_value_23 : decode c_W_value 23 = .ok (.iconst 2, 1) := by decide +kernel
theorem d_W_value_24 : decode c_W_value 24 = .ok (.ireturn, 1) := by decide +kernel
theorem d_W_value_25 : decode c_W_value 25 = .ok (.iconst 0, 1) := by decide +kernel
theorem d_W_value_26 : decode c_W_value 26 = .ok (.ireturn, 1) := by decide +kernel
theorem d_W_law_0 : decode code 0 = .ok (.new 8, 3) := by decide +kernel
theorem d_W_law_3 : decode code 3 = .ok (.dup, 1) := by decide +kernel
theorem d_W_law_4 : decode code 4 = .ok (.invokespecial 36, 3) := by decide +kernel
theorem d_W_law_7 : decode code 7 = .ok (.astore_n 1, 1) := by decide +kernel
theorem d_W_law_8 : decode code 8 = .ok (.new 37, 3) := by decide +kernel
theorem d_W_law_11 : decode code 11 = .ok (.dup, 1) := by decide +kernel
theorem d_W_law_12 : decode code 12 = .ok (.invokespecial 39, 3) := by decide +kernel
theorem d_W_law_15 : decode code 15 = .ok (.astore_n 2, 1) := by decide +kernel
theorem d_W_law_16 : decode code 16 = .ok (.iconst 1, 1) := by decide +kernel
theorem d_W_law_17 : decode code 17 = .ok (.newarray .long, 2) := by decide +kernel
theorem d_W_law_19 : decode code 19 = .ok (.astore_n 3, 1) := by decide +kernel
theorem d_W_law_20 : decode code 20 = .ok (.iconst 0, 1) := by decide +kernel
theorem d_W_law_21 : decode code 21 = .ok (.istore 4, 2) := by decide +kernel
theorem d_W_law_23 : decode code 23 = .ok (.iload 4, 2) := by decide +kernel
theorem d_W_law_25 : decode code 25 = .ok (.aload_n 0, 1) := by decide +kernel
theorem d_W_law_26 : decode code 26 = .ok (.arraylength, 1) := by decide +kernel
theorem d_W_law_27 : decode code 27 = .ok (.iconst 2, 1) := by decide +kernel
theorem d_W_law_28 : decode code 28 = .ok (.isub, 1) := by decide +kernel
theorem d_W_law_29 : decode code 29 = .ok (.if_icmp .gt 402, 3) := by decide +kernel
theorem d_W_law_32 : decode code 32 = .ok (.aload_n 0, 1) := by decide +kernel
theorem d_W_law_33 : decode code 33 = .ok (.iload 4, 2) := by decide +kernel
theorem d_W_law_35 : decode code 35 = .ok (.iaload, 1) := by decide +kernel
theorem d_W_law_36 : decode code 36 = .ok (.bipush 15, 2) := by decide +kernel
theorem d_W_law_38 : decode code 38 = .ok (.iand, 1) := by decide +kernel
theorem d_W_law_39 : decode code 39 = .ok (.tableswitch 386 0 8 #[49, 93, 129, 173, 209, 222, 285, 298, 361], 49) := by decide +kernel
theorem d_W_law_88 : decode code 88 = .ok (.aload_n 1, 1) := by decide +kernel
theorem d_W_law_89 : decode code 89 = .ok (.aload_n 3, 1) := by decide +kernel
theorem d_W_law_90 : decode code 90 = .ok (.invokestatic 40, 3) := by decide +kernel
theorem d_W_law_93 : decode code 93 = .ok (.istore 5, 2) := by decide +kernel
theorem d_W_law_95 : decode code 95 = .ok (.aload_n 2, 1) := by decide +kernel
theorem d_W_law_96 : decode code 96 = .ok (.invokevirtual 45, 3) := by decide +kernel
theorem d_W_law_99 : decode code 99 = .ok (.istore 6, 2) := by decide +kernel
theorem d_W_law_101 : decode code 101 = .ok (.aload_n 2, 1) := by decide +kernel
theorem d_W_law_102 : decode code 102 = .ok (.invokevirtual 46, 3) := by decide +kernel
theorem d_W_law_105 : decode code 105 = .ok (.iload 5, 2) := by decide +kernel
theorem d_W_law_107 : decode code 107 = .ok (.if_icmp .eq 5, 3) := by decide +kernel
theorem d_W_law_110 : decode code 110 = .ok (.iconst 0, 1) := by decide +kernel
theorem d_W_law_111 : decode code 111 = .ok (.ireturn, 1) := by decide +kernel
theorem d_W_law_112 : decode code 112 = .ok (.iload 5, 2) := by decide +kernel
theorem d_W_law_114 : decode code 114 = .ok (.ifCond .ne 15, 3) := by decide +kernel
theorem d_W_law_117 : decode code 117 = .ok (.aload_n 3, 1) := by decide +kernel
theorem d_W_law_118 : decode code 118 = .ok (.iconst 0, 1) := by decide +kernel
theorem d_W_law_119 : decode code 119 = .ok (.laload, 1) := by decide +kernel
theorem d_W_law_120 : decode code 120 = .ok (.iload 6, 2) := by decide +kernel
theorem d_W_law_122 : decode code 122 = .ok (.i2l, 1) := by decide +kernel
theorem d_W_law_123 : decode code 123 = .ok (.lcmp, 1) := by decide +kernel
theorem d_W_law_124 : decode code 124 = .ok (.ifCond .eq 5, 3) := by decide +kernel
theorem d_W_law_127 : decode code 127 = .ok (.iconst 0, 1) := by decide +kernel
theorem d_W_law_128 : decode code 128 = .ok (.ireturn, 1) := by decide +kernel
theorem d_W_law_129 : decode code 129 = .ok (.goto 296, 3) := by decide +kernel
theorem d_W_law_132 : decode code 132 = .ok (.aload_n 1, 1) := by decide +kernel
theorem d_W_law_133 : decode code 133 = .ok (.aload_n 0, 1) := by decide +kernel
theorem d_W_law_134 : decode code 134 = .ok (.iload 4, 2) := by decide +kernel
theorem d_W_law_136 : decode code 136 = .ok (.iconst 1, 1) := by decide +kernel
theorem d_W_law_137 : decode code 137 = .ok (.iadd, 1) := by decide +kernel
theorem d_W_law_138 : decode code 138 = .ok (.iaload, 1) := by decide +kernel
theorem d_W_law_139 : decode code 139 = .ok (.invokestatic 49, 3) := by decide +kernel
theorem d_W_law_142 : decode code 142 = .ok (.istore 5, 2) := by decide +kernel
theorem d_W_law_144 : decode code 144 = .ok (.aload_n 2, 1) := by decide +kernel
theorem d_W_law_145 : decode code 145 = .ok (.aload_n 0, 1) := by decide +kernel
theorem d_W_law_146 : decode code 146 = .ok (.iload 4, 2) := by decide +kernel
theorem d_W_law_148 : decode code 148 = .ok (.iconst 1, 1) := by decide +kernel
theorem d_W_law_149 : decode code 149 = .ok (.iadd, 1) := by decide +kernel
theorem d_W_law_150 : decode code 150 = .ok (.iaload, 1) := by decide +kernel
theorem d_W_law_151 : decode code 151 = .ok (.invokevirtual 52, 3) := by decide +kernel
theorem d_W_law_154 : decode code 154 = .ok (.aload_n 2, 1) := by decide +kernel
theorem d_W_law_155 : decode code 155 = .ok (.invokevirtual 46, 3) := by decide +kernel
theorem d_W_law_158 : decode code 158 = .ok (.iload 5, 2) := by decide +kernel
theorem d_W_law_160 : decode code 160 = .ok (.if_icmp .eq 5, 3) := by decide +kernel
theorem d_W_law_163 : decode code 163 = .ok (.iconst 0, 1) := by decide +kernel
theorem d_W_law_164 : decode code 164 = .ok (.ireturn, 1) := by decide +kernel
theorem d_W_law_165 : decode code 165 = .ok (.goto 260, 3) := by decide +kernel
theorem d_W_law_168 : decode code 168 = .ok (.aload_n 1, 1) := by decide +kernel
theorem d_W_law_169 : decode code 169 = .ok (.aload_n 3, 1) := by decide +kernel
theorem d_W_law_170 : decode code 170 = .ok (.invokestatic 53, 3) := by decide +kernel
theorem d_W_law_173 : decode code 173 = .ok (.istore 5, 2) := by decide +kernel
theorem d_W_law_175 : decode code 175 = .ok (.aload_n 2, 1) := by decide +kernel
theorem d_W_law_176 : decode code 176 = .ok (.invokevirtual 55, 3) := by decide +kernel
theorem d_W_law_179 : decode code 179 = .ok (.istore 6, 2) := by decide +kernel
theorem d_W_law_181 : decode code 181 = .ok (.aload_n 2, 1) := by decide +kernel
theorem d_W_law_182 : decode code 182 = .ok (.invokevirtual 46, 3) := by decide +kernel
theorem d_W_law_185 : decode code 185 = .ok (.iload 5, 2) := by decide +kernel
theorem d_W_law_187 : decode code 187 = .ok (.if_icmp .eq 5, 3) := by decide +kernel
theorem d_W_law_190 : decode code 190 = .ok (.iconst 0, 1) := by decide +kernel
theorem d_W_law_191 : decode code 191 = .ok (.ireturn, 1) := by decide +kernel
theorem d_W_law_192 : decode code 192 = .ok (.iload 5, 2) := by decide +kernel
theorem d_W_law_194 : decode code 194 = .ok (.ifCond .ne 15, 3) := by decide +kernel
theorem d_W_law_197 : decode code 197 = .ok (.aload_n 3, 1) := by decide +kernel
theorem d_W_law_198 : decode code 198 = .ok (.iconst 0, 1) := by decide +kernel
theorem d_W_law_199 : decode code 199 = .ok (.laload, 1) := by decide +kernel
theorem d_W_law_200 : decode code 200 = .ok (.iload 6, 2) := by decide +kernel
theorem d_W_law_202 : decode code 202 = .ok (.i2l, 1) := by decide +kernel
theorem d_W_law_203 : decode code 203 = .ok (.lcmp, 1) := by decide +kernel
theorem d_W_law_204 : decode code 204 = .ok (.ifCond .eq 5, 3) := by decide +kernel
theorem d_W_law_207 : decode code 207 = .ok (.iconst 0, 1) := by decide +kernel
theorem d_W_law_208 : decode code 208 = .ok (.ireturn, 1) := by decide +kernel
theorem d_W_law_209 : decode code 209 = .ok (.goto 216, 3) := by decide +kernel
theorem d_W_law_212 : decode code 212 = .ok (.aload_n 1, 1) := by decide +kernel
theorem d_W_law_213 : decode code 213 = .ok (.aload_n 0, 1) := by decide +kernel
theorem d_W_law_214 : decode code 214 = .ok (.iload 4, 2) := by decide +kernel
theorem d_W_law_216 : decode code 216 = .ok (.iconst 1, 1) := by decide +kernel
theorem d_W_law_217 : decode code 217 = .ok (.iadd, 1) := by decide +kernel
theorem d_W_law_218 : decode code 218 = .ok (.iaload, 1) := by decide +kernel
theorem d_W_law_219 : decode code 219 = .ok (.invokestatic 56, 3) := by decide +kernel
theorem d_W_law_222 : decode code 222 = .ok (.istore 5, 2) := by decide +kernel
theorem d_W_law_224 : decode code 224 = .ok (.aload_n 2, 1) := by decide +kernel
theorem d_W_law_225 : decode code 225 = .ok (.aload_n 0, 1) := by decide +kernel
theorem d_W_law_226 : decode code 226 = .ok (.iload 4, 2) := by decide +kernel
theorem d_W_law_228 : decode code 228 = .ok (.iconst 1, 1) := by decide +kernel
theorem d_W_law_229 : decode code 229 = .ok (.iadd, 1) := by decide +kernel
theorem d_W_law_230 : decode code 230 = .ok (.iaload, 1) := by decide +kernel
theorem d_W_law_231 : decode code 231 = .ok (.invokevirtual 58, 3) := by decide +kernel
theorem d_W_law_234 : decode code 234 = .ok (.aload_n 2, 1) := by decide +kernel
theorem d_W_law_235 : decode code 235 = .ok (.invokevirtual 46, 3) := by decide +kernel
theorem d_W_law_238 : decode code 238 = .ok (.iload 5, 2) := by decide +kernel
theorem d_W_law_240 : decode code 240 = .ok (.if_icmp .eq 5, 3) := by decide +kernel
theorem d_W_law_243 : decode code 243 = .ok (.iconst 0, 1) := by decide +kernel
theorem d_W_law_244 : decode code 244 = .ok (.ireturn, 1) := by decide +kernel
theorem d_W_law_245 : decode code 245 = .ok (.goto 180, 3) := by decide +kernel
theorem d_W_law_248 : decode code 248 = .ok (.aload_n 1, 1) := by decide +kernel
theorem d_W_law_249 : decode code 249 = .ok (.invokevirtual 59, 3) := by decide +kernel
theorem d_W_law_252 : decode code 252 = .ok (.aload_n 2, 1) := by decide +kernel
theorem d_W_law_253 : decode code 253 = .ok (.invokevirtual 63, 3) := by decide +kernel
theorem d_W_law_256 : decode code 256 = .ok (.if_icmp .eq 169, 3) := by decide +kernel
theorem d_W_law_259 : decode code 259 = .ok (.iconst 0, 1) := by decide +kernel
theorem d_W_law_260 : decode code 260 = .ok (.ireturn, 1) := by decide +kernel
theorem d_W_law_261 : decode code 261 = .ok (.aload_n 1, 1) := by decide +kernel
theorem d_W_law_262 : decode code 262 = .ok (.aload_n 0, 1) := by decide +kernel
theorem d_W_law_263 : decode code 263 = .ok (.iload 4, 2) := by decide +kernel
theorem d_W_law_265 : decode code 265 = .ok (.iconst 1, 1) := by decide +kernel
theorem d_W_law_266 : decode code 266 = .ok (.iadd, 1) := by decide +kernel
theorem d_W_law_267 : decode code 267 = .ok (.iaload, 1) := by decide +kernel
theorem d_W_law_268 : decode code 268 = .ok (.aload_n 3, 1) := by decide +kernel
theorem d_W_law_269 : decode code 269 = .ok (.invokestatic 64, 3) := by decide +kernel
theorem d_W_law_272 : decode code 272 = .ok (.istore 5, 2) := by decide +kernel
theorem d_W_law_274 : decode code 274 = .ok (.aload_n 2, 1) := by decide +kernel
theorem d_W_law_275 : decode code 275 = .ok (.aload_n 0, 1) := by decide +kernel
theorem d_W_law_276 : decode code 276 = .ok (.iload 4, 2) := by decide +kernel
theorem d_W_law_278 : decode code 278 = .ok (.iconst 1, 1) := by decide +kernel
theorem d_W_law_279 : decode code 279 = .ok (.iadd, 1) := by decide +kernel
theorem d_W_law_280 : decode code 280 = .ok (.iaload, 1) := by decide +kernel
theorem d_W_law_281 : decode code 281 = .ok (.invokevirtual 67, 3) := by decide +kernel
theorem d_W_law_284 : decode code 284 = .ok (.istore 6, 2) := by decide +kernel
theorem d_W_law_286 : decode code 286 = .ok (.aload_n 2, 1) := by decide +kernel
theorem d_W_law_287 : decode code 287 = .ok (.invokevirtual 46, 3) := by decide +kernel
theorem d_W_law_290 : decode code 290 = .ok (.iload 5, 2) := by decide +kernel
theorem d_W_law_292 : decode code 292 = .ok (.if_icmp .eq 5, 3) := by decide +kernel
theorem d_W_law_295 : decode code 295 = .ok (.iconst 0, 1) := by decide +kernel
theorem d_W_law_296 : decode code 296 = .ok (.ireturn, 1) := by decide +kernel
theorem d_W_law_297 : decode code 297 = .ok (.iload 5, 2) := by decide +kernel
theorem d_W_law_299 : decode code 299 = .ok (.ifCond .ne 22, 3) := by decide +kernel
theorem d_W_law_302 : decode code 302 = .ok (.aload_n 3, 1) := by decide +kernel
theorem d_W_law_303 : decode code 303 = .ok (.iconst 0, 1) := by decide +kernel
theorem d_W_law_304 : decode code 304 = .ok (.laload, 1) := by decide +kernel
theorem d_W_law_305 : decode code 305 = .ok (.iload 6, 2) := by decide +kernel
theorem d_W_law_307 : decode code 307 = .ok (.ifCond .eq 7, 3) := by decide +kernel
theorem d_W_law_310 : decode code 310 = .ok (.lconst 1, 1) := by decide +kernel
theorem d_W_law_311 : decode code 311 = .ok (.goto 4, 3) := by decide +kernel
theorem d_W_law_314 : decode code 314 = .ok (.lconst 0, 1) := by decide +kernel
theorem d_W_law_315 : decode code 315 = .ok (.lcmp, 1) := by decide +kernel
theorem d_W_law_316 : decode code 316 = .ok (.ifCond .eq 5, 3) := by decide +kernel
theorem d_W_law_319 : decode code 319 = .ok (.iconst 0, 1) := by decide +kernel
theorem d_W_law_320 : decode code 320 = .ok (.ireturn, 1) := by decide +kernel
theorem d_W_law_321 : decode code 321 = .ok (.goto 104, 3) := by decide +kernel
theorem d_W_law_324 : decode code 324 = .ok (.aload_n 1, 1) := by decide +kernel
theorem d_W_law_325 : decode code 325 = .ok (.invokevirtual 68, 3) := by decide +kernel
theorem d_W_law_328 : decode code 328 = .ok (.aload_n 2, 1) := by decide +kernel
theorem d_W_law_329 : decode code 329 = .ok (.invokevirtual 71, 3) := by decide +kernel
theorem d_W_law_332 : decode code 332 = .ok (.if_icmp .eq 93, 3) := by decide +kernel
theorem d_W_law_335 : decode code 335 = .ok (.iconst 0, 1) := by decide +kernel
theorem d_W_law_336 : decode code 336 = .ok (.ireturn, 1) := by decide +kernel
theorem d_W_law_337 : decode code 337 = .ok (.aload_n 1, 1) := by decide +kernel
theorem d_W_law_338 : decode code 338 = .ok (.aload_n 0, 1) := by decide +kernel
theorem d_W_law_339 : decode code 339 = .ok (.iload 4, 2) := by decide +kernel
theorem d_W_law_341 : decode code 341 = .ok (.iconst 1, 1) := by decide +kernel
theorem d_W_law_342 : decode code 342 = .ok (.iadd, 1) := by decide +kernel
theorem d_W_law_343 : decode code 343 = .ok (.iaload, 1) := by decide +kernel
theorem d_W_law_344 : decode code 344 = .ok (.aload_n 3, 1) := by decide +kernel
theorem d_W_law_345 : decode code 345 = .ok (.invokestatic 72, 3) := by decide +kernel
theorem d_W_law_348 : decode code 348 = .ok (.istore 5, 2) := by decide +kernel
theorem d_W_law_350 : decode code 350 = .ok (.aload_n 2, 1) := by decide +kernel
theorem d_W_law_351 : decode code 351 = .ok (.aload_n 0, 1) := by decide +kernel
theorem d_W_law_352 : decode code 352 = .ok (.iload 4, 2) := by decide +kernel
theorem d_W_law_354 : decode code 354 = .ok (.iconst 1, 1) := by decide +kernel
theorem d_W_law_355 : decode code 355 = .ok (.iadd, 1) := by decide +kernel
theorem d_W_law_356 : decode code 356 = .ok (.iaload, 1) := by decide +kernel
theorem d_W_law_357 : decode code 357 = .ok (.invokevirtual 74, 3) := by decide +kernel
theorem d_W_law_360 : decode code 360 = .ok (.istore 6, 2) := by decide +kernel
theorem d_W_law_362 : decode code 362 = .ok (.aload_n 2, 1) := by decide +kernel
theorem d_W_law_363 : decode code 363 = .ok (.invokevirtual 46, 3) := by decide +kernel
theorem d_W_law_366 : decode code 366 = .ok (.iload 5, 2) := by decide +kernel
theorem d_W_law_368 : decode code 368 = .ok (.if_icmp .eq 5, 3) := by decide +kernel
theorem d_W_law_371 : decode code 371 = .ok (.iconst 0, 1) := by decide +kernel
theorem d_W_law_372 : decode code 372 = .ok (.ireturn, 1) := by decide +kernel
theorem d_W_law_373 : decode code 373 = .ok (.iload 5, 2) := by decide +kernel
theorem d_W_law_375 : decode code 375 = .ok (.ifCond .ne 22, 3) := by decide +kernel
theorem d_W_law_378 : decode code 378 = .ok (.aload_n 3, 1) := by decide +kernel
theorem d_W_law_379 : decode code 379 = .ok (.iconst 0, 1) := by decide +kernel
theorem d_W_law_380 : decode code 380 = .ok (.laload, 1) := by decide +kernel
theorem d_W_law_381 : decode code 381 = .ok (.iload 6, 2) := by decide +kernel
theorem d_W_law_383 : decode code 383 = .ok (.ifCond .eq 7, 3) := by decide +kernel
theorem d_W_law_386 : decode code 386 = .ok (.lconst 1, 1) := by decide +kernel
theorem d_W_law_387 : decode code 387 = .ok (.goto 4, 3) := by decide +kernel
theorem d_W_law_390 : decode code 390 = .ok (.lconst 0, 1) := by decide +kernel
theorem d_W_law_391 : decode code 391 = .ok (.lcmp, 1) := by decide +kernel
theorem d_W_law_392 : decode code 392 = .ok (.ifCond .eq 5, 3) := by decide +kernel
theorem d_W_law_395 : decode code 395 = .ok (.iconst 0, 1) := by decide +kernel
theorem d_W_law_396 : decode code 396 = .ok (.ireturn, 1) := by decide +kernel
theorem d_W_law_397 : decode code 397 = .ok (.goto 28, 3) := by decide +kernel
theorem d_W_law_400 : decode code 400 = .ok (.aload_n 1, 1) := by decide +kernel
theorem d_W_law_401 : decode code 401 = .ok (.aload_n 0, 1) := by decide +kernel
theorem d_W_law_402 : decode code 402 = .ok (.iload 4, 2) := by decide +kernel
theorem d_W_law_404 : decode code 404 = .ok (.iconst 1, 1) := by decide +kernel
theorem d_W_law_405 : decode code 405 = .ok (.iadd, 1) := by decide +kernel
theorem d_W_law_406 : decode code 406 = .ok (.iaload, 1) := by decide +kernel
theorem d_W_law_407 : decode code 407 = .ok (.invokevirtual 75, 3) := by decide +kernel
theorem d_W_law_410 : decode code 410 = .ok (.aload_n 2, 1) := by decide +kernel
theorem d_W_law_411 : decode code 411 = .ok (.aload_n 0, 1) := by decide +kernel
theorem d_W_law_412 : decode code 412 = .ok (.iload 4, 2) := by decide +kernel
theorem d_W_law_414 : decode code 414 = .ok (.iconst 1, 1) := by decide +kernel
theorem d_W_law_415 : decode code 415 = .ok (.iadd, 1) := by decide +kernel
theorem d_W_law_416 : decode code 416 = .ok (.iaload, 1) := by decide +kernel
theorem d_W_law_417 : decode code 417 = .ok (.invokevirtual 79, 3) := by decide +kernel
theorem d_W_law_420 : decode code 420 = .ok (.if_icmp .eq 5, 3) := by decide +kernel
theorem d_W_law_423 : decode code 423 = .ok (.iconst 0, 1) := by decide +kernel
theorem d_W_law_424 : decode code 424 = .ok (.ireturn, 1) := by decide +kernel
theorem d_W_law_425 : decode code 425 = .ok (.iinc 4 2, 3) := by decide +kernel
theorem d_W_law_428 : decode code 428 = .ok (.goto (-405), 3) := by decide +kernel
theorem d_W_law_431 : decode code 431 = .ok (.iconst 1, 1) := by decide +kernel
theorem d_W_law_432 : decode code 432 = .ok (.ireturn, 1) := by decide +kernel
end
section
/-! Part 03: a short form of contract, for methods that make no cell: from the cells wi to the cells wo, with the answer r; and how such a contract is entered, left and called -/
def CTi (l : Launch) (cl : List vw_C) (y : MethodName) (w : List Cond) (rm : Room) (D : va_G) (tys : List (ClassId × FieldType)) (av : List Value) (wi : va_W) (r : Int32) (wo : va_W) : Prop :=
  ∀ sz : Nat, Met l y w rm (va_Pc av (fun U => U.heap.size = sz ∧ va_P D cl wi U.heap ∧ va_K D cl tys U ∧ va_D (fun _ => True) wi)) (va_Qi (fun (x : Int32) (_ : Unit) => x = r) (fun _ t => va_P D cl wo t.heap ∧ va_K D cl tys t ∧ va_D (va_A wi sz) wo) (va_A wi sz)) 0 0 (va_A wi sz)
def CTv (l : Launch) (cl : List vw_C) (y : MethodName) (w : List Cond) (rm : Room) (D : va_G) (tys : List (ClassId × FieldType)) (av : List Value) (wi : va_W) (wo : va_W) : Prop :=
  ∀ sz : Nat, Met l y w rm (va_Pc av (fun U => U.heap.size = sz ∧ va_P D cl wi U.heap ∧ va_K D cl tys U ∧ va_D (fun _ => True) wi)) (va_Qv (fun (_ : Unit) => True) (fun _ t => va_P D cl wo t.heap ∧ va_K D cl tys t ∧ va_D (va_A wi sz) wo) (va_A wi sz)) 0 0 (va_A wi sz)
set_option maxHeartbeats 1000000 in
theorem CTi_of {l : Launch} {cl : List vw_C} {y : MethodName} {w w' : List Cond} {rm : Room} {D : va_G} {tys : List (ClassId × FieldType)} {av : List Value} {wi : va_W} {r : Int32} {wo : va_W} {cc : ByteArray} {maxL : Nat} {ty : FieldType} {own : String}
    (hy : plainName y.cls = true) (ho : y.cls = own) (hw : w = Cond.code y cc maxL (some ty) :: w') (hav : (lg_sl av).length ≤ maxL) (hty : narrow ty (.int r) = .int r)
    (body : ∀ (p : Program) (e : Env) (s : State) (m : MethodId) (below : List Frame) (meth : Method) (c : Code) (A : Nat → Prop) (ls : Array Slot) (Q : State → Prop),
      p.tables.exec = Jvm.exec → c.code = cc → c.maxLocals = maxL → (∀ x ∈ w, x.before av.toArray s = true) → s.vm.findClass own = some m.cls → va_K D cl tys s → va_P D cl wi s.heap → va_D A wi → va_S A s.heap s.heap [] → (∀ q, s.heap.size ≤ q → A q) → lv_has ls maxL (lv_args 0 av) →
      (∀ (H : Heap) (locs : List Loc) (pc : Nat) (ls : Array Slot) (v : Int32), va_P D cl wo H → va_D A wo → va_S A s.heap H locs → v = r → decode cc pc = .ok (.ireturn, 1) → W p l e rm s m av.toArray below meth c H locs 0 0 Q (F0 m pc ls [.int v])) →
      W p l e rm s m av.toArray below meth c s.heap [] 0 0 Q (F0 m 0 ls [])) : CTi l cl y w rm D tys av wi r wo := by
  intro sz
  refine Met.ofW (cc := cc) (maxL := maxL) (ret := some ty) hy hw ?_
  intro p e s m args below meth c s₁ B hml hv
  obtain ⟨rfl, hsz, hP, hK, hD0⟩ := hv
  have hx := B.exec
  have hb := B.bytes
  have hr := B.returns
  have hts := atoms_spec (ws := w) B.pre
  have hown : s.vm.findClass own = some m.cls := by rw [← ho]; exact findClass_of_methodNamed B.named
  have hlocks := B.notSynchronized
  subst hsz
  have hD := hD0.self (sz := s.heap.size)
  have hA : ∀ q : Nat, s.heap.size ≤ q → va_A wi s.heap.size q := fun q h => Or.inr h
  have hS : va_S (va_A wi s.heap.size) s.heap s.heap [] := va_S.rf
  have hl := lv_entry av (n := maxL) hav
  rw [lg_entry_eq]
  refine body p e s m below meth c (va_A wi s.heap.size) _ _ hx hb hml hts hown hK hP hD hS hA hl ?_
  intro H locs pc ls v hP9 hD9 hS9 hv9 hd
  subst hv9
  exact W.zret (ty := ty) hx hb hr hty (fun t ht hW => ⟨⟨v, (), rfl, rfl, by rw [ht]; exact hP9, va_K.moved hW.alike hK, hD9⟩, hS9.F ht⟩) hS9.2.2 hd
set_option maxHeartbeats 1000000 in
theorem CTv_of {l : Launch} {cl : List vw_C} {y : MethodName} {w w' : List Cond} {rm : Room} {D : va_G} {tys : List (ClassId × FieldType)} {av : List Value} {wi : va_W} {wo : va_W} {cc : ByteArray} {maxL : Nat} {own : String}
    (hy : plainName y.cls = true) (ho : y.cls = own) (hw : w = Cond.code y cc maxL none :: w') (hav : (lg_sl av).length ≤ maxL)
    (body : ∀ (p : Program) (e : Env) (s : State) (m : MethodId) (below : List Frame) (meth : Method) (c : Code) (A : Nat → Prop) (ls : Array Slot) (Q : State → Prop),
      p.tables.exec = Jvm.exec → c.code = cc → c.maxLocals = maxL → (∀ x ∈ w, x.before av.toArray s = true) → s.vm.findClass own = some m.cls → va_K D cl tys s → va_P D cl wi s.heap → va_D A wi → va_S A s.heap s.heap [] → (∀ q, s.heap.size ≤ q → A q) → lv_has ls maxL (lv_args 0 av) →
      (∀ (H : Heap) (locs : List Loc) (pc : Nat) (ls : Array Slot), va_P D cl wo H → va_D A wo → va_S A s.heap H locs → decode cc pc = .ok (.return_, 1) → W p l e rm s m av.toArray below meth c H locs 0 0 Q (F0 m pc ls [])) →
      W p l e rm s m av.toArray below meth c s.heap [] 0 0 Q (F0 m 0 ls [])) : CTv l cl y w rm D tys av wi wo := by
  intro sz
  refine Met.ofW (cc := cc) (maxL := maxL) (ret := none) hy hw ?_
  intro p e s m args below meth c s₁ B hml hv
  obtain ⟨rfl, hsz, hP, hK, hD0⟩ := hv
  have hx := B.exec
  have hb := B.bytes
  have hr := B.returns
  have hts := atoms_spec (ws := w) B.pre
  have hown : s.vm.findClass own = some m.cls := by rw [← ho]; exact findClass_of_methodNamed B.named
  have hlocks := B.notSynchronized
  subst hsz
  have hD := hD0.self (sz := s.heap.size)
  have hA : ∀ q : Nat, s.heap.size ≤ q → va_A wi s.heap.size q := fun q h => Or.inr h
  have hS : va_S (va_A wi s.heap.size) s.heap s.heap [] := va_S.rf
  have hl := lv_entry av (n := maxL) hav
  rw [lg_entry_eq]
  refine body p e s m below meth c (va_A wi s.heap.size) _ _ hx hb hml hts hown hK hP hD hS hA hl ?_
  intro H locs pc ls hP9 hD9 hS9 hd
  exact W.vret hx hb hr (fun t ht hW => ⟨⟨(), rfl, trivial, by rw [ht]; exact hP9, va_K.moved hW.alike hK, hD9⟩, hS9.F ht⟩) hS9.2.2 hd
section CTcalls
variable {p : Program} {l : Launch} {e : Env} {R : Room} {s : State} {m : MethodId} {args : Array Value} {below : List Frame} {meth : Method} {c : Code} {H : Heap} {locs : List Loc} {cells slots : Nat} {Q : State → Prop}
variable {pc : Nat} {ls : Array Slot} {rest : List Value} {A : Nat → Prop} {cl : List vw_C} {D : va_G} {tys tys' : List (ClassId × FieldType)} {ws wi wo wr : va_W} {y : MethodName} {w : List Cond} {rm : Room} {As : List Value} {cc bytes : ByteArray} {nL maxL n index : Nat} {ret : Option FieldType} {Ts : List Cond} {own C : String} {b : Nat}
/-- what the callee's cells and the rest are -/
abbrev CTp (ws wi wr : va_W) (isC isR : List Nat) : Prop := isC.map (fun i => ws[i]?) = wi.map some ∧ isR.map (fun i => ws[i]?) = wr.map some ∧ va_nd isC = true ∧ va_nd isR = true ∧ ∀ i ∈ isR, i ∉ isC
theorem CT_ps {isC isR : List Nat} (h : CTp ws wi wr isC isR) (hP : va_P D cl ws H) : va_P D cl wi H := by
  refine hP.sub isC ?_
  have h1 := h.1
  have : ∀ (is : List Nat) (wi : va_W), is.map (fun i => ws[i]?) = wi.map some → is.filterMap (fun i => ws[i]?) = wi := by
    intro is
    induction is with
    | nil => intro wi h; cases wi with
      | nil => rfl
      | cons a t => exact absurd h (by simp)
    | cons i is ih =>
      intro wi h
      cases wi with
      | nil => exact absurd h (by simp)
      | cons a t =>
        rw [List.map_cons, List.map_cons, List.cons.injEq] at h
        rw [List.filterMap_cons, h.1, ih t h.2]
  exact this isC wi h1
theorem CTi_go {r : Int32} {isC isR : List Nat} (hp : CTp ws wi wr isC isR) (hK : va_K D cl tys s) (hP : va_P D cl ws H) (hD : va_D A ws) (hS : va_S A s.heap H locs) (hA : ∀ q, s.heap.size ≤ q → A q) {st0 : List Value} {a : Array Value}
    (hr : va_Run p l e R s m args below meth c H locs cells slots 0 0 (F0 m pc ls st0) rest (va_Qi (fun (x : Int32) (_ : Unit) => x = r) (fun _ t => va_P D cl wo t.heap ∧ va_K D cl tys' t ∧ va_D (va_A wi H.size) wo) (va_A wi H.size) a) (va_A wi H.size))
    (kk : ∀ (H1 : Heap) (locs1 : List Loc), va_P D cl (wr ++ wo) H1 → va_D A (wr ++ wo) → va_S A s.heap H1 locs1 → W p l e R s m args below meth c H1 locs1 cells slots Q (F0 m (pc + 3) ls (.int r :: rest))) :
    W p l e R s m args below meth c H locs cells slots Q (F0 m pc ls st0) := by
  have hFc := va_free (wc := wi) hD hS hA isC hp.1
  refine va_calli hr hS (fun q _ h => hFc q h) hFc (fun x u t H1 locs1 ht hvm hx hB hz1 hk1 hS1 => ?_)
  subst hx
  obtain ⟨hP1, -, hD1⟩ := hB
  rw [ht] at hP1
  obtain ⟨hP2, hD2⟩ := va_join (wr := wr) (w1 := wo) hP hD isC isR hp.1 hp.2.1 hp.2.2.2.1 hp.2.2.2.2 hk1 hFc hP1 hD1
  exact kk H1 locs1 hP2 hD2 hS1
theorem CTv_go {isC isR : List Nat} (hp : CTp ws wi wr isC isR) (hK : va_K D cl tys s) (hP : va_P D cl ws H) (hD : va_D A ws) (hS : va_S A s.heap H locs) (hA : ∀ q, s.heap.size ≤ q → A q) {st0 : List Value} {a : Array Value}
    (hr : va_Run p l e R s m args below meth c H locs cells slots 0 0 (F0 m pc ls st0) rest (va_Qv (fun (_ : Unit) => True) (fun _ t => va_P D cl wo t.heap ∧ va_K D cl tys' t ∧ va_D (va_A wi H.size) wo) (va_A wi H.size) a) (va_A wi H.size))
    (kk : ∀ (H1 : Heap) (locs1 : List Loc), va_P D cl (wr ++ wo) H1 → va_D A (wr ++ wo) → va_S A s.heap H1 locs1 → W p l e R s m args below meth c H1 locs1 cells slots Q (F0 m (pc + 3) ls rest)) :
    W p l e R s m args below meth c H locs cells slots Q (F0 m pc ls st0) := by
  have hFc := va_free (wc := wi) hD hS hA isC hp.1
  refine va_callv hr hS (fun q _ h => hFc q h) hFc (fun u t H1 locs1 ht hvm hx hB hz1 hk1 hS1 => ?_)
  obtain ⟨hP1, -, hD1⟩ := hB
  rw [ht] at hP1
  obtain ⟨hP2, hD2⟩ := va_join (wr := wr) (w1 := wo) hP hD isC isR hp.1 hp.2.1 hp.2.2.2.1 hp.2.2.2.2 hk1 hFc hP1 hD1
  exact kk H1 locs1 hP2 hD2 hS1
/-- the callee's start, out of the caller's world -/
theorem CT_pre {isC isR : List Nat} {av : List Value} (hp : CTp ws wi wr isC isR) (hK : va_K D cl tys s) (js : List Nat) (hj : js.filterMap (fun i => tys[i]?) = tys') (hP : va_P D cl ws H) (hD : va_D A ws) :
    FrameBlind (va_Pc av (fun U => U.heap.size = H.size ∧ va_P D cl wi U.heap ∧ va_K D cl tys' U ∧ va_D (fun _ => True) wi)) ∧ ∀ U : State, U.heap = H → s.WarmedH U.vm → va_Pc av (fun U => U.heap.size = H.size ∧ va_P D cl wi U.heap ∧ va_K D cl tys' U ∧ va_D (fun _ => True) wi) av.toArray U := by
  have hKc := hK.sub (tys' := tys') js hj
  have hPc := CT_ps hp hP
  have hDc := hD.sub (ws' := wi) isC hp.2.2.1 hp.1
  refine ⟨fun a U g mk q => ?_, fun U hU hW => ⟨rfl, by rw [hU], by rw [hU]; exact hPc, va_K.moved hW.alike hKc, hDc.weaken (fun _ _ _ _ => trivial)⟩⟩
  obtain ⟨q0, q1, qP, qK, qD⟩ := q
  exact ⟨q0, q1, qP, va_K.moved (u := U) (U := U.calling g mk a) (Vm.Alike.refl U.vm) qK, qD⟩
/-- invokevirtual with an int answer -/
theorem CTi_V (S : CallFix p m c cc nL s args Ts own) {r : Int32} {isC isR : List Nat} (js : List Nat) (hC : CTi l cl y w rm D tys' (.ref b :: As) wi r wo) (cw : CallW R s args own C index y bytes maxL ret w rm 0 0 n) (hp : CTp ws wi wr isC isR) (hj : js.filterMap (fun i => tys[i]?) = tys')
    (hK : va_K D cl tys s) (hP : va_P D cl ws H) (hD : va_D A ws) (hS : va_S A s.heap H locs) (hA : ∀ q, s.heap.size ≤ q → A q) (hrc : ∃ cell : Cell, H[b]? = some cell ∧ cell.vm.isStatics = false ∧ s.vm.findClass C = some cell.cls)
    (hn : As.length = n) (hsize : ls.size = nL) (hW : (rest.map fun v => v.category).sum ≤ 8) (hdg : decode cc pc = .ok (.invokevirtual index, 3)) (hf : cells ≤ R.cells ∧ slots ≤ R.slots)
    (kk : ∀ (H1 : Heap) (locs1 : List Loc), va_P D cl (wr ++ wo) H1 → va_D A (wr ++ wo) → va_S A s.heap H1 locs1 → W p l e R s m args below meth c H1 locs1 cells slots Q (F0 m (pc + 3) ls (.int r :: rest))) :
    W p l e R s m args below meth c H locs cells slots Q (F0 m pc ls (As.reverse ++ .ref b :: rest)) :=
  CTi_go hp hK hP hD hS hA (va_runV S (hC H.size) cw ⟨(CT_pre hp hK js hj hP hD).1, hrc, (CT_pre hp hK js hj hP hD).2⟩ rfl hn hsize rfl (lv_room hW) hdg hf) kk
theorem CTv_V (S : CallFix p m c cc nL s args Ts own) {isC isR : List Nat} (js : List Nat) (hC : CTv l cl y w rm D tys' (.ref b :: As) wi wo) (cw : CallW R s args own C index y bytes maxL ret w rm 0 0 n) (hp : CTp ws wi wr isC isR) (hj : js.filterMap (fun i => tys[i]?) = tys')
    (hK : va_K D cl tys s) (hP : va_P D cl ws H) (hD : va_D A ws) (hS : va_S A s.heap H locs) (hA : ∀ q, s.heap.size ≤ q → A q) (hrc : ∃ cell : Cell, H[b]? = some cell ∧ cell.vm.isStatics = false ∧ s.vm.findClass C = some cell.cls)
    (hn : As.length = n) (hsize : ls.size = nL) (hW : (rest.map fun v => v.category).sum ≤ 8) (hdg : decode cc pc = .ok (.invokevirtual index, 3)) (hf : cells ≤ R.cells ∧ slots ≤ R.slots)
    (kk : ∀ (H1 : Heap) (locs1 : List Loc), va_P D cl (wr ++ wo) H1 → va_D A (wr ++ wo) → va_S A s.heap H1 locs1 → W p l e R s m args below meth c H1 locs1 cells slots Q (F0 m (pc + 3) ls rest)) :
    W p l e R s m args below meth c H locs cells slots Q (F0 m pc ls (As.reverse ++ .ref b :: rest)) :=
  CTv_go hp hK hP hD hS hA (va_runV S (hC H.size) cw ⟨(CT_pre hp hK js hj hP hD).1, hrc, (CT_pre hp hK js hj hP hD).2⟩ rfl hn hsize rfl (lv_room hW) hdg hf) kk
/-- invokestatic with an int answer -/
theorem CTi_S (S : CallFix p m c cc nL s args Ts own) {r : Int32} {isC isR : List Nat} (js : List Nat) (hC : CTi l cl y w rm D tys' As wi r wo) (cw : CallB R s args own index y bytes maxL ret w rm 0 0 n ∧ (Cond.static y).before args s = true) (hp : CTp ws wi wr isC isR) (hj : js.filterMap (fun i => tys[i]?) = tys')
    (hK : va_K D cl tys s) (hP : va_P D cl ws H) (hD : va_D A ws) (hS : va_S A s.heap H locs) (hA : ∀ q, s.heap.size ≤ q → A q)
    (hn : As.length = n) (hsize : ls.size = nL) (hW : (rest.map fun v => v.category).sum ≤ 8) (hdg : decode cc pc = .ok (.invokestatic index, 3)) (hf : cells ≤ R.cells ∧ slots ≤ R.slots)
    (kk : ∀ (H1 : Heap) (locs1 : List Loc), va_P D cl (wr ++ wo) H1 → va_D A (wr ++ wo) → va_S A s.heap H1 locs1 → W p l e R s m args below meth c H1 locs1 cells slots Q (F0 m (pc + 3) ls (.int r :: rest))) :
    W p l e R s m args below meth c H locs cells slots Q (F0 m pc ls (As.reverse ++ rest)) :=
  CTi_go hp hK hP hD hS hA (va_runS S (hC H.size) cw (CT_pre hp hK js hj hP hD) rfl hn hsize rfl (lv_room hW) hdg hf) kk
end CTcalls
/-! the same with the words and classes of this claim -/
abbrev KTi (l : Launch) (y : MethodName) (cc : ByteArray) (n : Nat) (ty : FieldType) (rm : Room) (D : va_G) (tys : List (ClassId × FieldType)) (av : List Value) (wi : va_W) (r : Int32) (wo : va_W) : Prop := CTi l cls_ y (wz y cc n (some ty)) rm D tys av wi r wo
abbrev KTv (l : Launch) (y : MethodName) (cc : ByteArray) (n : Nat) (rm : Room) (D : va_G) (tys : List (ClassId × FieldType)) (av : List Value) (wi : va_W) (wo : va_W) : Prop := CTv l cls_ y (wz y cc n none) rm D tys av wi wo
theorem KTi_of {l : Launch} {y : MethodName} {rm : Room} {D : va_G} {tys : List (ClassId × FieldType)} {av : List Value} {wi : va_W} {r : Int32} {wo : va_W} {cc : ByteArray} {maxL : Nat} {ty : FieldType} {own : String}
    (hy : plainName y.cls = true) (ho : y.cls = own) (hav : (lg_sl av).length ≤ maxL) (hty : narrow ty (.int r) = .int r)
    (body : ∀ (p : Program) (e : Env) (s : State) (m : MethodId) (below : List Frame) (meth : Method) (c : Code) (A : Nat → Prop) (ls : Array Slot) (Q : State → Prop),
      p.tables.exec = Jvm.exec → c.code = cc → c.maxLocals = maxL → (∀ x ∈ lw_G, x.before av.toArray s = true) → s.vm.findClass own = some m.cls → va_K D cls_ tys s → va_P D cls_ wi s.heap → va_D A wi → va_S A s.heap s.heap [] → (∀ q, s.heap.size ≤ q → A q) → lv_has ls maxL (lv_args 0 av) →
      (∀ (H : Heap) (locs : List Loc) (pc : Nat) (ls : Array Slot) (v : Int32), va_P D cls_ wo H → va_D A wo → va_S A s.heap H locs → v = r → decode cc pc = .ok (.ireturn, 1) → W p l e rm s m av.toArray below meth c H locs 0 0 Q (F0 m pc ls [.int v])) →
      W p l e rm s m av.toArray below meth c s.heap [] 0 0 Q (F0 m 0 ls [])) : KTi l y cc maxL ty rm D tys av wi r wo :=
  CTi_of hy ho rfl hav hty (fun p e s m below meth c A ls Q hx hb hml hts hown hK hP hD hS hA hl fin => body p e s m below meth c A ls Q hx hb hml (fun x h => hts x (List.mem_cons_of_mem _ h)) hown hK hP hD hS hA hl fin)
theorem KTv_of {l : Launch} {y : MethodName} {rm : Room} {D : va_G} {tys : List (ClassId × FieldType)} {av : List Value} {wi : va_W} {wo : va_W} {cc : ByteArray} {maxL : Nat} {own : String}
    (hy : plainName y.cls = true) (ho : y.cls = own) (hav : (lg_sl av).length ≤ maxL)
    (body : ∀ (p : Program) (e : Env) (s : State) (m : MethodId) (below : List Frame) (meth : Method) (c : Code) (A : Nat → Prop) (ls : Array Slot) (Q : State → Prop),
      p.tables.exec = Jvm.exec → c.code = cc → c.maxLocals = maxL → (∀ x ∈ lw_G, x.before av.toArray s = true) → s.vm.findClass own = some m.cls → va_K D cls_ tys s → va_P D cls_ wi s.heap → va_D A wi → va_S A s.heap s.heap [] → (∀ q, s.heap.size ≤ q → A q) → lv_has ls maxL (lv_args 0 av) →
      (∀ (H : Heap) (locs : List Loc) (pc : Nat) (ls : Array Slot), va_P D cls_ wo H → va_D A wo → va_S A s.heap H locs → decode cc pc = .ok (.return_, 1) → W p l e rm s m av.toArray below meth c H locs 0 0 Q (F0 m pc ls [])) →
      W p l e rm s m av.toArray below meth c s.heap [] 0 0 Q (F0 m 0 ls [])) : KTv l y cc maxL rm D tys av wi wo :=
  CTv_of hy ho rfl hav (fun p e s m below meth c A ls Q hx hb hml hts hown hK hP hD hS hA hl fin => body p e s m below meth c A ls Q hx hb hml (fun x h => hts x (List.mem_cons_of_mem _ h)) hown hK hP hD hS hA hl fin)
end
section
/-! Part 20: masks by their bits. The rows bt, b_ext .. b_ushr began as rows of kit/laws/BITS.to-paste -/
def bt (x : Int32) (i : Nat) : Bool := x.toBitVec.getLsbD i
theorem b_ext {x y : Int32} (h : ∀ i, i < 32 → bt x i = bt y i) : x = y := Int32.toBitVec_inj.mp (BitVec.eq_of_getLsbD_eq (fun i hi => h i hi))
theorem b_or (x y : Int32) (i : Nat) : bt (x ||| y) i = (bt x i || bt y i) := by unfold bt; rw [Int32.toBitVec_or, BitVec.getLsbD_or]
theorem b_and (x y : Int32) (i : Nat) : bt (x &&& y) i = (bt x i && bt y i) := by unfold bt; rw [Int32.toBitVec_and, BitVec.getLsbD_and]
theorem b_xor (x y : Int32) (i : Nat) : bt (x ^^^ y) i = (bt x i ^^ bt y i) := by unfold bt; rw [Int32.toBitVec_xor, BitVec.getLsbD_xor]
theorem b_big {x : Int32} {i : Nat} (h : 32 ≤ i) : bt x i = false := BitVec.getLsbD_of_ge _ _ h
theorem b_m1 : ∀ i, i < 32 → bt (-1) i = true := by decide +kernel
theorem b_0 (i : Nat) : bt 0 i = false := BitVec.getLsbD_zero
theorem s_l : ∀ n, n < 32 → ((nI n &&& 31).toBitVec.smod 32).toNat = n := by decide +kernel
theorem s_u : ∀ n, n < 32 → (((nI n).toUInt32 &&& Int32.toUInt32 31).toBitVec % 32).toNat = n := by decide +kernel
theorem b_shl (n : Nat) (hn : n < 32) (x : Int32) {i : Nat} (hi : i < 32) : bt (x <<< (nI n &&& 31)) i = (decide (n ≤ i) && bt x (i - n)) := by
  unfold bt
  rw [Int32.toBitVec_shiftLeft]
  show (x.toBitVec <<< ((nI n &&& 31).toBitVec.smod 32).toNat).getLsbD i = _
  rw [s_l n hn, BitVec.getLsbD_shiftLeft]
  rcases Nat.lt_or_ge i n with h | h
  · simp [h, Nat.not_le.mpr h]
  · simp [hi, h, Nat.not_lt.mpr h]
theorem b_ushr (n : Nat) (hn : n < 32) (x : Int32) (i : Nat) : bt ((x.toUInt32 >>> ((nI n).toUInt32 &&& Int32.toUInt32 31)).toInt32) i = bt x (n + i) := by
  show (x.toUInt32 >>> ((nI n).toUInt32 &&& Int32.toUInt32 31)).toBitVec.getLsbD i = x.toUInt32.toBitVec.getLsbD (n + i)
  rw [UInt32.toBitVec_shiftRight]
  show (x.toUInt32.toBitVec >>> (((nI n).toUInt32 &&& Int32.toUInt32 31).toBitVec % 32).toNat).getLsbD i = _
  rw [s_u n hn, BitVec.getLsbD_ushiftRight]
theorem b_1023 (i : Nat) : bt 1023 i = decide (i < 10) := by
  rcases Nat.lt_or_ge i 32 with h | h
  · exact (by decide +kernel : ∀ i, i < 32 → bt 1023 i = decide (i < 10)) i h
  · rw [b_big h, decide_eq_false (by omega)]
theorem b_not (x : Int32) {i : Nat} (hi : i < 32) : bt (x ^^^ (-1)) i = !bt x i := by rw [b_xor, b_m1 i hi, Bool.xor_true]
theorem b_lt {x : Int32} {i : Nat} (h : bt x i = true) : i < 32 := by
  rcases Nat.lt_or_ge i 32 with h1 | h1
  · exact h1
  · rw [b_big h1] at h; exact absurd h (by decide)
/-- the bits of 'a without b' -/
theorem b_diff (x y : Int32) (i : Nat) : bt (x &&& (y ^^^ (-1))) i = (bt x i && !bt y i) := by
  rcases Nat.lt_or_ge i 32 with h | h
  · rw [b_and, b_not y h]
  · rw [b_big h, b_big h, Bool.false_and]
theorem b_ne0 {x : Int32} : x ≠ 0 ↔ ∃ i, bt x i = true := by
  constructor
  · intro h
    apply Classical.byContradiction
    intro hn
    apply h
    apply b_ext
    intro i _
    rw [b_0]
    cases hb : bt x i with
    | false => rfl
    | true => exact absurd ⟨i, hb⟩ hn
  · rintro ⟨i, hi⟩ rfl
    rw [b_0] at hi
    exact absurd hi (by decide)
theorem b_eq0 {x : Int32} : x = 0 ↔ ∀ i, bt x i = false := by
  constructor
  · rintro rfl i; exact b_0 i
  · intro h; apply b_ext; intro i _; rw [h i, b_0]
/-- the other literal of the same variable -/
def cn (i : Nat) : Nat := if i < 10 then i + 10 else i - 10
theorem cn_lt {i : Nat} (h : i < 20) : cn i < 20 := by unfold cn; split <;> omega
theorem cn_cn {i : Nat} (h : i < 20) : cn (cn i) = i := by unfold cn; split <;> split <;> omega
theorem cn_ne {i : Nat} (h : i < 20) : cn i ≠ i := by unfold cn; split <;> omega
theorem cn_var {i : Nat} (h : i < 20) : cn i % 10 = i % 10 := by unfold cn; split <;> omega
theorem cn_inj {i j : Nat} (hi : i < 20) (hj : j < 20) (h : cn i = cn j) : i = j := by rw [← cn_cn hi, ← cn_cn hj, h]
theorem cn_same {i j : Nat} (hi : i < 20) (hj : j < 20) (h : i % 10 = j % 10) : i = j ∨ i = cn j := by unfold cn; split <;> omega
/-- Literals.opposite -/
def cc_neg (x : Int32) : Int32 := ((x &&& 1023) <<< ((10 : Int32) &&& 31)) ||| ((x.toUInt32 >>> ((10 : Int32).toUInt32 &&& Int32.toUInt32 31)).toInt32 &&& 1023)
theorem b_neg (x : Int32) (i : Nat) : bt (cc_neg x) i = (decide (i < 20) && bt x (cn i)) := by
  rcases Nat.lt_or_ge i 32 with h | h
  · unfold cc_neg
    have h1 : bt ((x &&& 1023) <<< ((10 : Int32) &&& 31)) i = (decide (10 ≤ i) && bt (x &&& 1023) (i - 10)) := b_shl 10 (by omega) _ h
    have h2 : bt ((x.toUInt32 >>> ((10 : Int32).toUInt32 &&& Int32.toUInt32 31)).toInt32) i = bt x (10 + i) := b_ushr 10 (by omega) x i
    rw [b_or, h1, b_and, b_and, h2, b_1023, b_1023]
    rcases Nat.lt_or_ge i 10 with h3 | h3
    · rw [show cn i = 10 + i from by unfold cn; rw [if_pos h3]; omega]
      rw [decide_eq_false (show ¬ 10 ≤ i by omega), decide_eq_true (show i < 20 by omega), decide_eq_true h3]
      simp
    · rw [show cn i = i - 10 from by unfold cn; rw [if_neg (by omega)]]
      rw [decide_eq_true h3, decide_eq_false (show ¬ i < 10 by omega)]
      rcases Nat.lt_or_ge i 20 with h4 | h4
      · rw [decide_eq_true h4, decide_eq_true (show i - 10 < 10 by omega)]; simp
      · rw [decide_eq_false (show ¬ i < 20 by omega), decide_eq_false (show ¬ i - 10 < 10 by omega)]; simp
  · rw [b_big h, decide_eq_false (by omega), Bool.false_and]
theorem b_negI {x : Int32} {i : Nat} : bt (cc_neg x) i = true ↔ i < 20 ∧ bt x (cn i) = true := by
  rw [b_neg, Bool.and_eq_true, decide_eq_true_eq]
/-- one literal alone -/
def sb (l : Nat) : Int32 := nI (2 ^ l)
theorem b_sb {l : Nat} (hl : l < 31) (i : Nat) : bt (sb l) i = decide (i = l) := by
  show (BitVec.ofNat 32 (2 ^ l)).getLsbD i = _
  rw [BitVec.getLsbD_ofNat, Nat.testBit_two_pow]
  rcases Nat.lt_or_ge i 32 with h | h
  · rw [decide_eq_true h, Bool.true_and]
    by_cases he : l = i
    · rw [decide_eq_true he, decide_eq_true he.symm]
    · rw [decide_eq_false he, decide_eq_false (fun h2 => he h2.symm)]
  · rw [decide_eq_false (by omega), Bool.false_and, decide_eq_false (by omega)]
theorem sb_of {x : Int32} {l : Nat} (hl : l < 31) (h : ∀ i, bt x i = true ↔ i = l) : x = sb l := by
  apply b_ext
  intro i _
  rw [b_sb hl]
  by_cases he : i = l
  · rw [decide_eq_true he]; exact (h i).2 he
  · rw [decide_eq_false he]
    cases hb : bt x i with
    | false => rfl
    | true => exact absurd ((h i).1 hb) he
theorem sb_inj {a b : Nat} (ha : a < 31) (hb : b < 31) (h : sb a = sb b) : a = b := by
  have h1 : bt (sb a) a = true := by rw [b_sb ha]; exact decide_eq_true rfl
  rw [h, b_sb hb] at h1
  exact of_decide_eq_true h1
theorem neg_sb {l : Nat} (hl : l < 20) : cc_neg (sb l) = sb (cn l) := by
  apply sb_of (by have := cn_lt hl; omega)
  intro i
  rw [b_negI, b_sb (by omega), decide_eq_true_eq]
  constructor
  · rintro ⟨h1, h2⟩; rw [← h2, cn_cn h1]
  · rintro rfl; exact ⟨cn_lt hl, cn_cn hl⟩
theorem p2_of : ∀ n : Nat, 0 < n → n &&& (n - 1) = 0 → ∃ k, n = 2 ^ k := by
  intro n
  induction n using Nat.strongRecOn with
  | ind n ih =>
    intro h0 h
    have h2 : (n &&& (n - 1)) >>> 1 = 0 := by rw [h]; rfl
    rw [Nat.shiftRight_and_distrib, Nat.shiftRight_eq_div_pow, Nat.shiftRight_eq_div_pow, Nat.pow_one] at h2
    rcases Nat.mod_two_eq_zero_or_one n with he | ho
    · have h3 : (n - 1) / 2 = n / 2 - 1 := by omega
      rw [h3] at h2
      obtain ⟨k, hk⟩ := ih (n / 2) (by omega) (by omega) h2
      exact ⟨k + 1, by rw [Nat.pow_succ]; omega⟩
    · have h3 : (n - 1) / 2 = n / 2 := by omega
      rw [h3, Nat.and_self] at h2
      exact ⟨0, by omega⟩
/-- Literals.isSingle -/
def cc_single (x : Int32) : Prop := x ≠ 0 ∧ x &&& (x - 1) = 0
theorem single_of {x : Int32} (h : cc_single x) : ∃ l, l < 32 ∧ ∀ i, bt x i = true ↔ i = l := by
  obtain ⟨h0, h1⟩ := h
  have e0 : 0 < x.toBitVec.toNat := by
    apply Nat.pos_of_ne_zero
    intro hz
    apply h0
    apply Int32.toBitVec_inj.mp
    apply BitVec.eq_of_toNat_eq
    rw [hz]; rfl
  have e1 : x.toBitVec &&& (x.toBitVec - 1#32) = 0#32 := by
    have h2 := congrArg Int32.toBitVec h1
    rw [Int32.toBitVec_and, Int32.toBitVec_sub] at h2
    exact h2
  have e2 : (x.toBitVec - 1#32).toNat = x.toBitVec.toNat - 1 := by
    have := x.toBitVec.isLt
    rw [BitVec.toNat_sub]
    show (2 ^ 32 - 1 + x.toBitVec.toNat) % 2 ^ 32 = _
    omega
  have e3 : x.toBitVec.toNat &&& (x.toBitVec.toNat - 1) = 0 := by
    have h2 := congrArg BitVec.toNat e1
    rw [BitVec.toNat_and, e2] at h2
    exact h2
  obtain ⟨k, hk⟩ := p2_of _ e0 e3
  have hb : ∀ i, bt x i = decide (k = i) := by
    intro i
    show x.toBitVec.getLsbD i = _
    rw [← BitVec.testBit_toNat, hk, Nat.testBit_two_pow]
  have hk32 : k < 32 := b_lt (x := x) (by rw [hb k]; exact decide_eq_true rfl)
  refine ⟨k, hk32, fun i => ?_⟩
  rw [hb i, decide_eq_true_eq]
  exact eq_comm
theorem single_sb {l : Nat} (hl : l < 31) : cc_single (sb l) :=
  (by decide +kernel : ∀ l, l < 31 → sb l ≠ 0 ∧ sb l &&& (sb l - 1) = 0) l hl
theorem single_iff {x : Int32} {l : Nat} (hl : l < 31) (h : ∀ i, bt x i = true ↔ i = l) : cc_single x := by
  rw [sb_of hl h]; exact single_sb hl
/-- the lowest bit -/
theorem low_bit {x : Int32} (hs : ∀ i, bt x i = true → i < 10) (h0 : x ≠ 0) : ∃ l, l < 10 ∧ x &&& (-x) = sb l ∧ bt x l = true ∧ ∀ j, j < l → bt x j = false := by
  have h1 : x.toBitVec.toNat < 2 ^ 10 := by
    apply Nat.lt_pow_two_of_testBit
    intro i hi
    rw [BitVec.testBit_toNat]
    cases hb : x.toBitVec.getLsbD i with
    | false => rfl
    | true => exact absurd (hs i hb) (by omega)
  have h2 : x = nI x.toBitVec.toNat := by
    apply Int32.toBitVec_inj.mp
    apply BitVec.eq_of_toNat_eq
    rw [pk_tn (by omega)]
  generalize x.toBitVec.toNat = k at h1 h2
  subst h2
  have h3 : ∀ k, k < 1024 → nI k ≠ 0 → ∃ l, l < 10 ∧ nI k &&& (-(nI k)) = sb l ∧ bt (nI k) l = true ∧ ∀ j, j < l → bt (nI k) j = false := by decide +kernel
  exact h3 k h1 h0
end
section
/-! Part 21: the class's methods as plain functions. A docket: clauses, linksFrom, linksTo, links, size, linked, openFrom. A search: trail, reasons, length, held -/
abbrev DS : Type := (Nat → Int32) × (Nat → Int32) × (Nat → Int32) × (Nat → Int32) × Nat × Nat × Nat
abbrev SS : Type := (Nat → Int32) × (Nat → Int32) × Nat × Int32
abbrev dC (d : DS) : Nat → Int32 := d.1
abbrev dF (d : DS) : Nat → Int32 := d.2.1
abbrev dT (d : DS) : Nat → Int32 := d.2.2.1
abbrev dK (d : DS) : Nat → Int32 := d.2.2.2.1
abbrev dz (d : DS) : Nat := d.2.2.2.2.1
abbrev dl (d : DS) : Nat := d.2.2.2.2.2.1
abbrev dO (d : DS) : Nat := d.2.2.2.2.2.2
abbrev sT (s : SS) : Nat → Int32 := s.1
abbrev sR (s : SS) : Nat → Int32 := s.2.1
abbrev sn (s : SS) : Nat := s.2.2.1
abbrev sh (s : SS) : Int32 := s.2.2.2
def dk_cl (d : DS) (i : Int32) : Int32 := if 0 ≤ i ∧ i < nI (dz d) then dC d i.toNatClampNeg else 0
def dk_from (d : DS) (i : Int32) : Int32 := if 0 ≤ i ∧ i < nI (dz d) then dF d i.toNatClampNeg else -1
def dk_to (d : DS) (i : Int32) : Int32 := if 0 ≤ i ∧ i < nI (dz d) then dT d i.toNatClampNeg else -1
def dk_linkAt (d : DS) (i : Int32) : Int32 := if 0 ≤ i ∧ i < nI (dl d) then dK d i.toNatClampNeg else -1
def dk_link (d : DS) (c : Int32) : DS := if dl d < 3060 then (dC d, dF d, dT d, upd (dK d) (dl d) c, dz d, dl d + 1, dO d) else d
def dk_append (d : DS) (c f t : Int32) : DS := if dz d < 1575 then (upd (dC d) (dz d) c, upd (dF d) (dz d) f, upd (dT d) (dz d) t, dK d, dz d + 1, dl d, dO d) else d
def dk_give (d : DS) (c : Int32) : DS := dk_append d c (-1) (-1)
def dk_derive (d : DS) (c : Int32) : DS :=
  let e := dk_append d c (nI (dO d)) (nI (dl d))
  (dC e, dF e, dT e, dK e, dz e, dl e, dl e)
def dk_keep (d : DS) (g : Nat) : DS := (dC d, dF d, dT d, dK d, if dz d ≤ g then dz d else g, 0, 0)
def sr_hold (s : SS) (x r : Int32) : SS := if sn s < 10 then (upd (sT s) (sn s) x, upd (sR s) (sn s) r, sn s + 1, sh s ||| x) else s
/-- what is open of a clause -/
def cc_open (c h : Int32) : Int32 := c &&& (cc_neg h ^^^ (-1))
def cc_singleB (x : Int32) : Bool := decide (x ≠ 0) && decide (x &&& (x - 1) = 0)
/-- k clauses from i on -/
def sr_sweep (C : Nat → Int32) : Nat → Nat → SS → Int32 × SS
  | 0, _, s => (-1, s)
  | k + 1, i, s =>
    if C i &&& sh s = 0 then
      if cc_open (C i) (sh s) = 0 then (nI i, s)
      else if cc_singleB (cc_open (C i) (sh s)) = true then sr_sweep C k (i + 1) (sr_hold s (cc_open (C i) (sh s)) (nI i))
      else sr_sweep C k (i + 1) s
    else sr_sweep C k (i + 1) s
/-- r rounds at most -/
def sr_prop (C : Nat → Int32) (z : Nat) : Nat → SS → Int32 × SS
  | 0, s => (-1, s)
  | r + 1, s =>
    if (sr_sweep C z 0 s).1 ≠ -1 then sr_sweep C z 0 s
    else if sn s < sn (sr_sweep C z 0 s).2 then sr_prop C z r (sr_sweep C z 0 s).2
    else sr_sweep C z 0 s
/-- Literals.positivesUpTo -/
def cc_pos (n : Nat) : Int32 := ((1 : Int32) <<< (nI n &&& 31)) - 1
def cc_free (n : Nat) (h : Int32) : Int32 := cc_pos n &&& ((h ||| cc_neg h) ^^^ (-1))
def sr_decide (n : Nat) (s : SS) : SS := sr_hold s (cc_neg (cc_free n (sh s) &&& (-(cc_free n (sh s))))) (-1)
/-- the place of the latest decision, and one more; 0: none -/
def sr_ld (R : Nat → Int32) : Nat → Nat
  | 0 => 0
  | k + 1 => if R k = -1 then k + 1 else sr_ld R k
/-- the trail's literals from a on, k of them, joined to x -/
def sr_or (T : Nat → Int32) : Nat → Nat → Int32 → Int32
  | 0, _, x => x
  | k + 1, a, x => sr_or T k (a + 1) (x ||| T a)
/-- the resolutions, from place k - 1 down to ld -/
def sr_res (T R : Nat → Int32) (ld : Nat) (la : Int32) : Nat → Int32 → DS → Int32 × DS
  | 0, x, d => (x, d)
  | k + 1, x, d =>
    if k < ld then (x, d)
    else if ld ≠ 0 ∧ cc_singleB (x &&& la) = true then (x, d)
    else if x &&& cc_neg (T k) = 0 then sr_res T R ld la k x d
    else sr_res T R ld la k ((x &&& (cc_neg (T k) ^^^ (-1))) ||| (dk_cl d (R k) &&& (T k ^^^ (-1)))) (dk_link d (R k))
def sr_jump (T R : Nat → Int32) (x : Int32) : Nat → Nat → Nat
  | 0, t => t
  | k + 1, t => if x &&& cc_neg (T k) = 0 then (if R k = -1 then sr_jump T R x k k else sr_jump T R x k t) else t
/-- what is held, without the places from t to k - 1 -/
def sr_cutH (T : Nat → Int32) (t : Nat) : Nat → Int32 → Int32
  | 0, h => h
  | k + 1, h => if k < t then h else sr_cutH T t k (h &&& (T k ^^^ (-1)))
def sr_cut (s : SS) (t : Nat) : SS := (sT s, sR s, if sn s ≤ t then sn s else t, sr_cutH (sT s) t (sn s) (sh s))
/-- the latest literals' opposites -/
def sr_late (s : SS) : Int32 := cc_neg (sr_or (sT s) (sn s - (sr_ld (sR s) (sn s) - 1)) (sr_ld (sR s) (sn s) - 1) 0)
def sr_learn1 (d : DS) (s : SS) (b : Int32) : Int32 × DS := sr_res (sT s) (sR s) (sr_ld (sR s) (sn s)) (sr_late s) (sn s) (dk_cl d b) (dk_link d b)
def sr_learn (d : DS) (s : SS) (b : Int32) : Int32 × DS × SS :=
  ((sr_learn1 d s b).1, dk_derive (sr_learn1 d s b).2 (sr_learn1 d s b).1, sr_cut s (sr_jump (sT s) (sR s) (sr_learn1 d s b).1 (sr_ld (sR s) (sn s) - 1) (sr_ld (sR s) (sn s) - 1)))
def sr_find (n : Nat) : Nat → DS → SS → Bool × DS × SS
  | 0, d, s => (false, d, s)
  | f + 1, d, s =>
    if (sr_prop (dC d) (dz d) 11 s).1 = -1 then
      if n ≤ sn (sr_prop (dC d) (dz d) 11 s).2 then (true, d, (sr_prop (dC d) (dz d) 11 s).2)
      else sr_find n f d (sr_decide n (sr_prop (dC d) (dz d) 11 s).2)
    else if (sr_learn d (sr_prop (dC d) (dz d) 11 s).2 (sr_prop (dC d) (dz d) 11 s).1).1 = 0 then
      (false, (sr_learn d (sr_prop (dC d) (dz d) 11 s).2 (sr_prop (dC d) (dz d) 11 s).1).2.1, (sr_learn d (sr_prop (dC d) (dz d) 11 s).2 (sr_prop (dC d) (dz d) 11 s).1).2.2)
    else sr_find n f (sr_learn d (sr_prop (dC d) (dz d) 11 s).2 (sr_prop (dC d) (dz d) 11 s).1).2.1 (sr_learn d (sr_prop (dC d) (dz d) 11 s).2 (sr_prop (dC d) (dz d) 11 s).1).2.2
end
section
/-! Part 22: assignments, places, numbers -/
theorem php : ∀ (n len : Nat) (f : Nat → Nat), (∀ k, k < len → f k < n) → (∀ j k, j < len → k < len → f j = f k → j = k) → len ≤ n ∧ (len = n → ∀ v, v < n → ∃ k, k < len ∧ f k = v) := by
  intro n
  induction n with
  | zero =>
    intro len f h _
    have h9 : len = 0 := by
      rcases Nat.eq_zero_or_pos len with h0 | h0
      · exact h0
      · exact absurd (h 0 h0) (by omega)
    exact ⟨by omega, fun _ v hv => absurd hv (by omega)⟩
  | succ n ih =>
    intro len f h hi
    by_cases hx : ∃ k, k < len ∧ f k = n
    · obtain ⟨k0, hk0, e0⟩ := hx
      have hg : ∀ k, k < len - 1 → (fun k => if k < k0 then f k else f (k + 1)) k < n := by
        intro k hk
        show (if k < k0 then f k else f (k + 1)) < n
        split
        · have h1 := h k (by omega)
          have h2 : f k ≠ n := fun e => by
            have := hi k k0 (by omega) hk0 (by rw [e, e0])
            omega
          omega
        · have h1 := h (k + 1) (by omega)
          have h2 : f (k + 1) ≠ n := fun e => by
            have := hi (k + 1) k0 (by omega) hk0 (by rw [e, e0])
            omega
          omega
      have hgi : ∀ j k, j < len - 1 → k < len - 1 → (fun k => if k < k0 then f k else f (k + 1)) j = (fun k => if k < k0 then f k else f (k + 1)) k → j = k := by
        intro j k hj hk he
        have he : (if j < k0 then f j else f (j + 1)) = (if k < k0 then f k else f (k + 1)) := he
        split at he <;> split at he
        · exact hi _ _ (by omega) (by omega) he
        · have := hi _ _ (by omega) (by omega) he
          omega
        · have := hi _ _ (by omega) (by omega) he
          omega
        · have := hi _ _ (by omega) (by omega) he
          omega
      obtain ⟨h1, h2⟩ := ih (len - 1) _ hg hgi
      refine ⟨by omega, fun e v hv => ?_⟩
      rcases Nat.lt_or_ge v n with hv2 | hv2
      · obtain ⟨k, hk, ek⟩ := h2 (by omega) v hv2
        have ek : (if k < k0 then f k else f (k + 1)) = v := ek
        split at ek
        · exact ⟨k, by omega, ek⟩
        · exact ⟨k + 1, by omega, ek⟩
      · exact ⟨k0, hk0, by omega⟩
    · have h1 : ∀ k, k < len → f k < n := fun k hk => by
        have := h k hk
        have h2 : f k ≠ n := fun e => hx ⟨k, hk, e⟩
        omega
      obtain ⟨h2, _⟩ := ih len f h1 hi
      exact ⟨by omega, fun e => absurd h2 (by omega)⟩
theorem nI_nm1 {r : Nat} (h : r < 2 ^ 31) : nI r ≠ -1 := fun e => by
  have h1 := congrArg Int32.toInt e
  rw [nI_toInt h, show (-1 : Int32).toInt = -1 from by decide +kernel] at h1
  omega
/-- a literal under an assignment -/
def mv (M : Nat → Bool) (i : Nat) : Bool := if i < 10 then M i else !M (i - 10)
theorem mv_cn {M : Nat → Bool} {i : Nat} (h : i < 20) : mv M (cn i) = !mv M i := by
  unfold mv cn
  by_cases h1 : i < 10
  · rw [if_pos h1, if_pos h1, if_neg (by omega)]
    rw [show i + 10 - 10 = i from by omega]
  · rw [if_neg h1, if_neg h1, if_pos (by omega), Bool.not_not]
def sat (M : Nat → Bool) (c : Int32) : Prop := ∃ i, i < 20 ∧ bt c i = true ∧ mv M i = true
theorem sat_0 {M : Nat → Bool} : ¬ sat M 0 := by
  rintro ⟨i, _, h, _⟩
  rw [b_0] at h
  exact absurd h (by decide)
/-- a step of resolution -/
def rs_step (x c : Int32) (a : Nat) : Int32 := (x &&& (sb (cn a) ^^^ (-1))) ||| (c &&& (sb a ^^^ (-1)))
theorem b_step (x c : Int32) {a : Nat} (ha : a < 20) (i : Nat) : bt (rs_step x c a) i = true ↔ (bt x i = true ∧ i ≠ cn a) ∨ (bt c i = true ∧ i ≠ a) := by
  have h1 := cn_lt ha
  unfold rs_step
  rw [b_or, b_diff, b_diff, b_sb (by omega), b_sb (by omega)]
  simp
theorem sat_step {M : Nat → Bool} {x c : Int32} {a : Nat} (ha : a < 20) (h1 : sat M x) (h2 : sat M c) : sat M (rs_step x c a) := by
  obtain ⟨i, hi, bi, mi⟩ := h1
  by_cases he : i = cn a
  · obtain ⟨j, hj, bj, mj⟩ := h2
    refine ⟨j, hj, (b_step x c ha j).2 (Or.inr ⟨bj, ?_⟩), mj⟩
    rintro rfl
    rw [he, mv_cn ha, mj] at mi
    exact absurd mi (by decide)
  · exact ⟨i, hi, (b_step x c ha i).2 (Or.inl ⟨bi, he⟩), mi⟩
/-- the trail's number -/
def numT (R : Nat → Int32) : Nat → Nat
  | 0 => 0
  | k + 1 => numT R k + if R k = -1 then 0 else 2 ^ (9 - k)
theorem p10 {k : Nat} (h : k ≤ 9) : 2 ^ (10 - k) = 2 * 2 ^ (9 - k) := by
  rw [show 10 - k = (9 - k) + 1 from by omega, Nat.pow_succ]
  omega
theorem numT_le (R : Nat → Int32) : ∀ k, k ≤ 10 → numT R k + 2 ^ (10 - k) ≤ 1024 := by
  intro k
  induction k with
  | zero => intro _; show 0 + 2 ^ 10 ≤ 1024; decide
  | succ k ih =>
    intro h
    have h1 := ih (by omega)
    rw [p10 (show k ≤ 9 by omega)] at h1
    rw [show 10 - (k + 1) = 9 - k from by omega]
    show numT R k + (if R k = -1 then 0 else 2 ^ (9 - k)) + 2 ^ (9 - k) ≤ 1024
    split <;> omega
theorem numT_congr {R R' : Nat → Int32} : ∀ k, (∀ j, j < k → R j = R' j) → numT R k = numT R' k := by
  intro k
  induction k with
  | zero => intro _; rfl
  | succ k ih =>
    intro h
    show numT R k + (if R k = -1 then 0 else 2 ^ (9 - k)) = numT R' k + (if R' k = -1 then 0 else 2 ^ (9 - k))
    rw [ih (fun j hj => h j (by omega)), h k (by omega)]
theorem numT_mono (R : Nat → Int32) {a : Nat} : ∀ b, a ≤ b → numT R a ≤ numT R b := by
  intro b
  induction b with
  | zero => intro h; rw [show a = 0 from by omega]; exact Nat.le_refl _
  | succ b ih =>
    intro h
    rcases Nat.lt_or_ge b a with h1 | h1
    · rw [show a = b + 1 from by omega]; exact Nat.le_refl _
    · exact Nat.le_trans (ih h1) (Nat.le_add_right _ _)
theorem numT_dvd (R : Nat → Int32) : ∀ k, k ≤ 10 → ∃ A, A < 2 ^ k ∧ numT R k = A * 2 ^ (10 - k) := by
  intro k
  induction k with
  | zero => intro _; exact ⟨0, by decide, by show 0 = 0 * _; omega⟩
  | succ k ih =>
    intro h
    obtain ⟨A, hA, e⟩ := ih (by omega)
    rw [p10 (show k ≤ 9 by omega)] at e
    rw [show 10 - (k + 1) = 9 - k from by omega]
    have h2 : A * (2 * 2 ^ (9 - k)) = (2 * A) * 2 ^ (9 - k) := by rw [← Nat.mul_assoc, Nat.mul_comm A 2]
    rw [Nat.pow_succ]
    by_cases hR : R k = -1
    · refine ⟨2 * A, by omega, ?_⟩
      show numT R k + (if R k = -1 then 0 else 2 ^ (9 - k)) = _
      rw [if_pos hR, e, h2]; rfl
    · refine ⟨2 * A + 1, by omega, ?_⟩
      show numT R k + (if R k = -1 then 0 else 2 ^ (9 - k)) = _
      rw [if_neg hR, e, h2, Nat.add_mul, Nat.one_mul]
theorem numT_run (R : Nat → Int32) (a : Nat) : ∀ b, a ≤ b → b ≤ 10 → (∀ k, a ≤ k → k < b → R k ≠ -1) → numT R b + 2 ^ (10 - b) = numT R a + 2 ^ (10 - a) := by
  intro b
  induction b with
  | zero => intro h _ _; rw [show a = 0 from by omega]
  | succ b ih =>
    intro h hb hR
    rcases Nat.lt_or_ge b a with h1 | h1
    · rw [show a = b + 1 from by omega]
    · have h2 := ih h1 (by omega) (fun k hk hk2 => hR k hk (by omega))
      rw [p10 (show b ≤ 9 by omega)] at h2
      rw [show 10 - (b + 1) = 9 - b from by omega]
      show numT R b + (if R b = -1 then 0 else 2 ^ (9 - b)) + 2 ^ (9 - b) = _
      rw [if_neg (hR b h1 (by omega))]
      omega
def lr1 : Nat → Nat → Nat
  | 0, _ => 0
  | f + 1, x => if x % 2 = 1 then 1 + lr1 f (x / 2) else 0
def lr0 : Nat → Nat → Nat
  | 0, _ => 0
  | f + 1, x => if x % 2 = 1 then lr1 11 x else lr0 f (x / 2)
/-- what a question's conflicts may link, up to a number -/
def pS : Nat → Nat
  | 0 => 0
  | x + 1 => pS x + (1 + lr0 11 x)
theorem pS_mono {a : Nat} : ∀ b, a ≤ b → pS a ≤ pS b := by
  intro b
  induction b with
  | zero => intro h; rw [show a = 0 from by omega]; exact Nat.le_refl _
  | succ b ih =>
    intro h
    rcases Nat.lt_or_ge b a with h1 | h1
    · rw [show a = b + 1 from by omega]; exact Nat.le_refl _
    · exact Nat.le_trans (ih h1) (Nat.le_add_right _ _)
set_option maxRecDepth 100000 in
theorem pS_end : pS 1024 ≤ 3060 := by decide +kernel
set_option maxRecDepth 100000 in
theorem lr_fin : ∀ ld, ld < 11 → ∀ len, len < 11 → ld ≤ len → ∀ A, A < 2 ^ (ld - 1) → len - ld ≤ lr0 11 (A * 2 ^ (11 - ld) + 2 ^ (10 - ld) - 2 ^ (10 - len)) := by decide +kernel
theorem lr_run (R : Nat → Int32) {ld len : Nat} (h1 : ld ≤ len) (h2 : len ≤ 10) (hd : ld ≠ 0 → R (ld - 1) = -1) (hR : ∀ k, ld ≤ k → k < len → R k ≠ -1) : len - ld ≤ lr0 11 (numT R len) := by
  have e1 := numT_run R ld len h1 h2 hR
  have e2 : ∃ A, A < 2 ^ (ld - 1) ∧ numT R ld = A * 2 ^ (11 - ld) := by
    rcases Nat.eq_zero_or_pos ld with h0 | h0
    · subst h0
      exact ⟨0, by decide, by show 0 = 0 * _; omega⟩
    · obtain ⟨A, hA, e⟩ := numT_dvd R (ld - 1) (by omega)
      refine ⟨A, hA, ?_⟩
      have h3 : numT R ld = numT R (ld - 1) + (if R (ld - 1) = -1 then 0 else 2 ^ (9 - (ld - 1))) := by
        obtain ⟨k, rfl⟩ : ∃ k, ld = k + 1 := ⟨ld - 1, by omega⟩
        rfl
      rw [h3, if_pos (hd (by omega)), e, show 10 - (ld - 1) = 11 - ld from by omega]
      rfl
  obtain ⟨A, hA, e⟩ := e2
  have h3 := lr_fin ld (by omega) len (by omega) h1 A hA
  rw [show numT R len = A * 2 ^ (11 - ld) + 2 ^ (10 - ld) - 2 ^ (10 - len) from by omega]
  exact h3
end
section
/-! Part 23: the trail, and what a sweep keeps. t k: the literal at place k -/
def tu (t : Nat → Nat) (k l : Nat) : Nat → Nat := fun j => if j = k then l else t j
theorem tu_s {t : Nat → Nat} {k l : Nat} : tu t k l k = l := if_pos rfl
theorem tu_n {t : Nat → Nat} {k l j : Nat} (h : j ≠ k) : tu t k l j = t j := if_neg h
def TR (n : Nat) (C : Nat → Int32) (z : Nat) (T R : Nat → Int32) (len : Nat) (h : Int32) (t : Nat → Nat) : Prop :=
  (∀ k, k < len → t k < 20 ∧ t k % 10 < n ∧ T k = sb (t k)) ∧
  (∀ j k, j < len → k < len → t j % 10 = t k % 10 → j = k) ∧
  (∀ i, bt h i = true ↔ ∃ k, k < len ∧ t k = i) ∧
  (∀ k, k < len → R k = -1 → 10 ≤ t k ∧ ∀ v, v < t k - 10 → ∃ j, j < k ∧ t j % 10 = v) ∧
  (∀ k, k < len → R k ≠ -1 → ∃ r, R k = nI r ∧ r < z ∧ bt (C r) (t k) = true ∧ ∀ i, bt (C r) i = true → i ≠ t k → ∃ j, j < k ∧ t j = cn i)
/-- every literal of clause i is denied before place k -/
def BRK (C : Nat → Int32) (t : Nat → Nat) (k i : Nat) : Prop := ∀ l, bt (C i) l = true → ∃ j, j < k ∧ t j = cn l
/-- ahead of a decision nothing was broken -/
def NBR (C : Nat → Int32) (z : Nat) (R : Nat → Int32) (len : Nat) (t : Nat → Nat) : Prop := ∀ k, k < len → R k = -1 → ∀ i, i < z → ¬ BRK C t k i
def CLS (n : Nat) (C : Nat → Int32) (z : Nat) : Prop := ∀ i, i < z → ∀ l, bt (C i) l = true → l < 20 ∧ l % 10 < n
def UNIT (C : Nat → Int32) (t : Nat → Nat) (k u : Nat) : Prop := ∃ l, l < 20 ∧ bt (C u) l = true ∧ (∀ j, j < k → t j % 10 ≠ l % 10) ∧ ∀ i, bt (C u) i = true → i ≠ l → ∃ j, j < k ∧ t j = cn i
def PND (C : Nat → Int32) (z i L : Nat) (R : Nat → Int32) (len : Nat) (t : Nat → Nat) : Prop :=
  L ≤ numT R len ∨ (len ≤ 9 ∧ L ≤ numT R len + 2 ^ (9 - len) ∧ (∀ j, j < z → ¬ BRK C t len j) ∧ ∃ u, i ≤ u ∧ u < z ∧ UNIT C t len u)
theorem TR_len {n : Nat} {C : Nat → Int32} {z : Nat} {T R : Nat → Int32} {len : Nat} {h : Int32} {t : Nat → Nat} (H : TR n C z T R len h t) : len ≤ n ∧ (len = n → ∀ v, v < n → ∃ k, k < len ∧ t k % 10 = v) :=
  php n len (fun k => t k % 10) (fun k hk => (H.1 k hk).2.1) (fun j k hj hk e => H.2.1 j k hj hk e)
/-- two places of one variable, one literal the other's opposite: never -/
theorem TR_opp {n : Nat} {C : Nat → Int32} {z : Nat} {T R : Nat → Int32} {len : Nat} {h : Int32} {t : Nat → Nat} (H : TR n C z T R len h t) {j k : Nat} (hj : j < len) (hk : k < len) (e : t j = cn (t k)) : False := by
  have h1 := (H.1 k hk).1
  have h2 := H.2.1 j k hj hk (by rw [e, cn_var h1])
  subst h2
  exact cn_ne h1 e.symm
theorem TR_hold {n : Nat} {C : Nat → Int32} {z : Nat} {T R : Nat → Int32} {len : Nat} {h : Int32} {t : Nat → Nat} (H : TR n C z T R len h t) {l : Nat} {r : Int32} (hl : l < 20) (hv : l % 10 < n) (hf : ∀ k, k < len → t k % 10 ≠ l % 10)
    (hr : (r = -1 ∧ 10 ≤ l ∧ ∀ v, v < l - 10 → ∃ j, j < len ∧ t j % 10 = v) ∨ (r ≠ -1 ∧ ∃ q, r = nI q ∧ q < z ∧ bt (C q) l = true ∧ ∀ i, bt (C q) i = true → i ≠ l → ∃ j, j < len ∧ t j = cn i)) :
    len < n ∧ TR n C z (upd T len (sb l)) (upd R len r) (len + 1) (h ||| sb l) (tu t len l) := by
  obtain ⟨H1, H2, H3, H4, H5⟩ := H
  have A1 : ∀ k, k < len + 1 → tu t len l k < 20 ∧ tu t len l k % 10 < n ∧ upd T len (sb l) k = sb (tu t len l k) := by
    intro k hk
    by_cases e : k = len
    · subst e; rw [tu_s, pk_us]; exact ⟨hl, hv, rfl⟩
    · rw [tu_n e, pk_un e]; exact H1 k (by omega)
  have A2 : ∀ j k, j < len + 1 → k < len + 1 → tu t len l j % 10 = tu t len l k % 10 → j = k := by
    intro j k hj hk e
    by_cases ej : j = len <;> by_cases ek : k = len
    · omega
    · subst ej; rw [tu_s, tu_n ek] at e; exact absurd e.symm (hf k (by omega))
    · subst ek; rw [tu_s, tu_n ej] at e; exact absurd e (hf j (by omega))
    · rw [tu_n ej, tu_n ek] at e; exact H2 j k (by omega) (by omega) e
  have hp := (php n (len + 1) (fun k => tu t len l k % 10) (fun k hk => (A1 k hk).2.1) (fun j k hj hk e => A2 j k hj hk e)).1
  refine ⟨by omega, A1, A2, ?_, ?_, ?_⟩
  · intro i
    rw [b_or, Bool.or_eq_true, H3 i, b_sb (by omega), decide_eq_true_eq]
    constructor
    · rintro (⟨k, hk, e⟩ | e)
      · exact ⟨k, by omega, by rw [tu_n (by omega)]; exact e⟩
      · exact ⟨len, by omega, by rw [tu_s]; exact e.symm⟩
    · rintro ⟨k, hk, e⟩
      by_cases ek : k = len
      · subst ek; rw [tu_s] at e; exact Or.inr e.symm
      · rw [tu_n ek] at e; exact Or.inl ⟨k, by omega, e⟩
  · intro k hk e
    by_cases ek : k = len
    · subst ek
      rw [pk_us] at e
      rw [tu_s]
      rcases hr with ⟨_, h1, h2⟩ | ⟨h1, _⟩
      · refine ⟨h1, fun v hv2 => ?_⟩
        obtain ⟨j, hj, ej⟩ := h2 v hv2
        exact ⟨j, hj, by rw [tu_n (by omega)]; exact ej⟩
      · exact absurd e h1
    · rw [pk_un ek] at e
      rw [tu_n ek]
      obtain ⟨h1, h2⟩ := H4 k (by omega) e
      refine ⟨h1, fun v hv2 => ?_⟩
      obtain ⟨j, hj, ej⟩ := h2 v hv2
      exact ⟨j, hj, by rw [tu_n (by omega)]; exact ej⟩
  · intro k hk e
    by_cases ek : k = len
    · subst ek
      rw [pk_us] at e ⊢
      rw [tu_s]
      rcases hr with ⟨h1, _⟩ | ⟨_, q, hq, hqz, hb, h2⟩
      · exact absurd h1 e
      · refine ⟨q, hq, hqz, hb, fun i hi hne => ?_⟩
        obtain ⟨j, hj, ej⟩ := h2 i hi hne
        exact ⟨j, hj, by rw [tu_n (by omega)]; exact ej⟩
    · rw [pk_un ek] at e ⊢
      rw [tu_n ek]
      obtain ⟨q, hq, hqz, hb, h2⟩ := H5 k (by omega) e
      refine ⟨q, hq, hqz, hb, fun i hi hne => ?_⟩
      obtain ⟨j, hj, ej⟩ := h2 i hi hne
      exact ⟨j, hj, by rw [tu_n (by omega)]; exact ej⟩
theorem b_open {c h : Int32} {l : Nat} : bt (cc_open c h) l = true ↔ bt c l = true ∧ ¬ (l < 20 ∧ bt h (cn l) = true) := by
  unfold cc_open
  rw [b_diff, Bool.and_eq_true, ← b_negI]
  simp
theorem b_and0 {c h : Int32} : c &&& h = 0 ↔ ∀ l, bt c l = true → bt h l = true → False := by
  rw [b_eq0]
  constructor
  · intro H l h1 h2
    have h3 := H l
    rw [b_and, h1, h2] at h3
    exact absurd h3 (by decide)
  · intro H l
    rw [b_and]
    cases h1 : bt c l with
    | false => rfl
    | true =>
      cases h2 : bt h l with
      | false => rfl
      | true => exact (H l h1 h2).elim
theorem singleB_iff {x : Int32} : cc_singleB x = true ↔ cc_single x := by
  unfold cc_singleB cc_single
  rw [Bool.and_eq_true, decide_eq_true_eq, decide_eq_true_eq]
theorem den_iff {n : Nat} {C : Nat → Int32} {z : Nat} {T R : Nat → Int32} {len : Nat} {h : Int32} {t : Nat → Nat} (H : TR n C z T R len h t) {l : Nat} (hl : l < 20) : (l < 20 ∧ bt h (cn l) = true) ↔ ∃ j, j < len ∧ t j = cn l := by
  rw [H.2.2.1 (cn l)]
  exact ⟨fun h => h.2, fun h => ⟨hl, h⟩⟩
theorem brk_of {n : Nat} {C : Nat → Int32} {z : Nat} {T R : Nat → Int32} {len : Nat} {h : Int32} {t : Nat → Nat} (H : TR n C z T R len h t) (hC : CLS n C z) {i : Nat} (hi : i < z) (h0 : cc_open (C i) h = 0) : BRK C t len i := by
  intro l hb
  rw [← den_iff H (hC i hi l hb).1]
  apply Classical.byContradiction
  intro hn
  have h1 : bt (cc_open (C i) h) l = true := b_open.2 ⟨hb, hn⟩
  rw [h0, b_0] at h1
  exact absurd h1 (by decide)
theorem nbrk_held {n : Nat} {C : Nat → Int32} {z : Nat} {T R : Nat → Int32} {len : Nat} {h : Int32} {t : Nat → Nat} (H : TR n C z T R len h t) {i : Nat} (h0 : C i &&& h ≠ 0) : ¬ BRK C t len i := by
  intro hB
  apply h0
  rw [b_and0]
  intro l h1 h2
  obtain ⟨k, hk, e⟩ := (H.2.2.1 l).1 h2
  obtain ⟨j, hj, ej⟩ := hB l h1
  rw [← e] at ej
  exact TR_opp H hj hk ej
theorem nbrk_open {n : Nat} {C : Nat → Int32} {z : Nat} {T R : Nat → Int32} {len : Nat} {h : Int32} {t : Nat → Nat} (H : TR n C z T R len h t) (hC : CLS n C z) {i : Nat} (hi : i < z) (h0 : cc_open (C i) h ≠ 0) : ¬ BRK C t len i := by
  intro hB
  apply h0
  rw [b_eq0]
  intro l
  cases hb : bt (cc_open (C i) h) l with
  | false => rfl
  | true =>
    obtain ⟨h1, h2⟩ := b_open.1 hb
    exact absurd ((den_iff H (hC i hi l h1).1).2 (hB l h1)) h2
theorem unit_of {n : Nat} {C : Nat → Int32} {z : Nat} {T R : Nat → Int32} {len : Nat} {h : Int32} {t : Nat → Nat} (H : TR n C z T R len h t) (hC : CLS n C z) {i : Nat} (hi : i < z) (h0 : C i &&& h = 0) (hs : cc_single (cc_open (C i) h)) :
    ∃ l, l < 20 ∧ l % 10 < n ∧ cc_open (C i) h = sb l ∧ bt (C i) l = true ∧ (∀ k, k < len → t k % 10 ≠ l % 10) ∧ ∀ q, bt (C i) q = true → q ≠ l → ∃ j, j < len ∧ t j = cn q := by
  obtain ⟨l, _, hl⟩ := single_of hs
  obtain ⟨h1, h2⟩ := b_open.1 ((hl l).2 rfl)
  obtain ⟨h3, h4⟩ := hC i hi l h1
  refine ⟨l, h3, h4, sb_of (by omega) hl, h1, ?_, ?_⟩
  · intro k hk e
    have h5 := (H.1 k hk).1
    rcases cn_same h5 h3 e with h6 | h6
    · exact b_and0.1 h0 l h1 ((H.2.2.1 l).2 ⟨k, hk, h6⟩)
    · exact h2 ((den_iff H h3).2 ⟨k, hk, h6⟩)
  · intro q hq hne
    rw [← den_iff H (hC i hi q hq).1]
    apply Classical.byContradiction
    intro hn
    exact hne ((hl q).1 (b_open.2 ⟨hq, hn⟩))
theorem open_unit {n : Nat} {C : Nat → Int32} {z : Nat} {T R : Nat → Int32} {len : Nat} {h : Int32} {t : Nat → Nat} (H : TR n C z T R len h t) (hC : CLS n C z) {u : Nat} (hu : u < z) (hU : UNIT C t len u) : C u &&& h = 0 ∧ cc_open (C u) h ≠ 0 ∧ cc_single (cc_open (C u) h) := by
  obtain ⟨l, hl, hb, hf, ho⟩ := hU
  have e : cc_open (C u) h = sb l := by
    apply sb_of (by omega)
    intro i
    rw [b_open]
    constructor
    · rintro ⟨h1, h2⟩
      apply Classical.byContradiction
      intro hne
      exact h2 ((den_iff H (hC u hu i h1).1).2 (ho i h1 hne))
    · rintro rfl
      refine ⟨hb, fun h2 => ?_⟩
      obtain ⟨j, hj, ej⟩ := (den_iff H hl).1 h2
      exact hf j hj (by rw [ej, cn_var hl])
  refine ⟨?_, ?_, ?_⟩
  · rw [b_and0]
    intro i h1 h2
    obtain ⟨k, hk, ek⟩ := (H.2.2.1 i).1 h2
    by_cases hne : i = l
    · exact hf k hk (by rw [ek, hne])
    · obtain ⟨j, hj, ej⟩ := ho i h1 hne
      rw [← ek] at ej
      exact TR_opp H hj hk ej
  · rw [e]; exact (single_sb (by omega)).1
  · rw [e]; exact single_sb (by omega)
/-- what one sweep, from clause i on, gives -/
def SWP (n : Nat) (C : Nat → Int32) (z L i : Nat) (s : SS) (t : Nat → Nat) (b : Int32) (s' : SS) : Prop :=
  ∃ t', TR n C z (sT s') (sR s') (sn s') (sh s') t' ∧ NBR C z (sR s') (sn s') t' ∧ sn s ≤ sn s' ∧ L ≤ numT (sR s') (sn s') ∧
    ((b = -1 ∧ (sn s' = sn s → t' = t ∧ s' = s ∧ ∀ j, i ≤ j → j < z → ¬ BRK C t (sn s) j)) ∨ ∃ j, b = nI j ∧ j < z ∧ BRK C t' (sn s') j)
theorem SWP_next {n : Nat} {C : Nat → Int32} {z L i : Nat} {s : SS} {t : Nat → Nat} {b : Int32} {s' : SS} (hi : ¬ BRK C t (sn s) i) (h : SWP n C z L (i + 1) s t b s') : SWP n C z L i s t b s' := by
  obtain ⟨t', h1, h2, h3, h4, h5⟩ := h
  refine ⟨t', h1, h2, h3, h4, ?_⟩
  rcases h5 with ⟨h6, h7⟩ | h6
  · refine Or.inl ⟨h6, fun e => ?_⟩
    obtain ⟨h8, h9, h10⟩ := h7 e
    refine ⟨h8, h9, fun j hj hz => ?_⟩
    by_cases ej : j = i
    · subst ej; exact hi
    · exact h10 j (by omega) hz
  · exact Or.inr h6
theorem sweep_ok {n : Nat} (hn : n ≤ 10) {C : Nat → Int32} {z : Nat} (hz : z < 2 ^ 31) (hC : CLS n C z) (L : Nat) :
    ∀ (k i : Nat) (s : SS) (t : Nat → Nat), i + k = z → TR n C z (sT s) (sR s) (sn s) (sh s) t → NBR C z (sR s) (sn s) t → PND C z i L (sR s) (sn s) t →
      SWP n C z L i s t (sr_sweep C k i s).1 (sr_sweep C k i s).2 := by
  intro k
  induction k with
  | zero =>
    intro i s t hik H hN hP
    refine ⟨t, H, hN, Nat.le_refl _, ?_, Or.inl ⟨rfl, fun _ => ⟨rfl, rfl, fun j h1 h2 => absurd h2 (by omega)⟩⟩⟩
    rcases hP with h1 | ⟨_, _, _, u, h1, h2, _⟩
    · exact h1
    · exact absurd h2 (by omega)
  | succ k ih =>
    intro i s t hik H hN hP
    have hi : i < z := by omega
    -- the pending clause, if it isn't this one, still lies ahead
    have skip : (UNIT C t (sn s) i → False) → ¬ BRK C t (sn s) i → SWP n C z L i s t (sr_sweep C k (i + 1) s).1 (sr_sweep C k (i + 1) s).2 := by
      intro hu hb
      refine SWP_next hb (ih (i + 1) s t (by omega) H hN ?_)
      rcases hP with h1 | ⟨h1, h2, h3, u, h4, h5, h6⟩
      · exact Or.inl h1
      · refine Or.inr ⟨h1, h2, h3, u, ?_, h5, h6⟩
        rcases Nat.lt_or_ge i u with h7 | h7
        · omega
        · have h8 : u = i := by omega
          subst h8
          exact (hu h6).elim
    unfold sr_sweep
    by_cases h0 : C i &&& sh s = 0
    · rw [if_pos h0]
      by_cases h1 : cc_open (C i) (sh s) = 0
      · rw [if_pos h1]
        have hB := brk_of H hC hi h1
        refine ⟨t, H, hN, Nat.le_refl _, ?_, Or.inr ⟨i, rfl, hi, hB⟩⟩
        rcases hP with h2 | ⟨_, _, h3, _⟩
        · exact h2
        · exact (h3 i hi hB).elim
      · rw [if_neg h1]
        by_cases h2 : cc_singleB (cc_open (C i) (sh s)) = true
        · rw [if_pos h2]
          obtain ⟨l, hl, hv, he, hb, hf, ho⟩ := unit_of H hC hi h0 (singleB_iff.1 h2)
          have hr : nI i ≠ -1 := nI_nm1 (by omega)
          obtain ⟨g1, g2⟩ := TR_hold H (r := nI i) hl hv hf (Or.inr ⟨hr, i, rfl, hi, hb, ho⟩)
          have e1 : sr_hold s (cc_open (C i) (sh s)) (nI i) = (upd (sT s) (sn s) (sb l), upd (sR s) (sn s) (nI i), sn s + 1, sh s ||| sb l) := by
            unfold sr_hold
            rw [if_pos (by omega), he]
          rw [e1]
          have g3 : NBR C z (upd (sR s) (sn s) (nI i)) (sn s + 1) (tu t (sn s) l) := by
            intro q hq eq j hj hB
            by_cases e : q = sn s
            · subst e; rw [pk_us] at eq; exact hr eq
            · rw [pk_un e] at eq
              refine hN q (by omega) eq j hj (fun m hm => ?_)
              obtain ⟨a, ha, ea⟩ := hB m hm
              exact ⟨a, ha, by rw [tu_n (by omega)] at ea; exact ea⟩
          have g4 : numT (upd (sR s) (sn s) (nI i)) (sn s + 1) = numT (sR s) (sn s) + 2 ^ (9 - sn s) := by
            show numT (upd (sR s) (sn s) (nI i)) (sn s) + (if upd (sR s) (sn s) (nI i) (sn s) = -1 then 0 else 2 ^ (9 - sn s)) = _
            rw [pk_us, if_neg hr, numT_congr (R' := sR s) (sn s) (fun j hj => pk_un (by omega))]
          have g5 : L ≤ numT (upd (sR s) (sn s) (nI i)) (sn s + 1) := by
            rw [g4]
            rcases hP with h3 | ⟨_, h3, _⟩
            · exact Nat.le_trans h3 (Nat.le_add_right _ _)
            · exact h3
          obtain ⟨t', k1, k2, k3, k4, k5⟩ := ih (i + 1) (upd (sT s) (sn s) (sb l), upd (sR s) (sn s) (nI i), sn s + 1, sh s ||| sb l) (tu t (sn s) l) (by omega) g2 g3 (Or.inl g5)
          have k3 : sn s + 1 ≤ sn (sr_sweep C k (i + 1) (upd (sT s) (sn s) (sb l), upd (sR s) (sn s) (nI i), sn s + 1, sh s ||| sb l)).2 := k3
          refine ⟨t', k1, k2, by omega, k4, ?_⟩
          rcases k5 with ⟨h6, _⟩ | h6
          · exact Or.inl ⟨h6, fun e => absurd e (by omega)⟩
          · exact Or.inr h6
        · rw [if_neg h2]
          exact skip (fun hu => h2 (singleB_iff.2 (open_unit H hC hi hu).2.2)) (nbrk_open H hC hi h1)
    · rw [if_neg h0]
      exact skip (fun hu => h0 (open_unit H hC hi hu).1) (nbrk_held H h0)
/-- what propagation gives -/
theorem prop_ok {n : Nat} (hn : n ≤ 10) {C : Nat → Int32} {z : Nat} (hz : z < 2 ^ 31) (hC : CLS n C z) (L : Nat) :
    ∀ (r : Nat) (s : SS) (t : Nat → Nat), 10 < r + sn s → TR n C z (sT s) (sR s) (sn s) (sh s) t → NBR C z (sR s) (sn s) t → PND C z 0 L (sR s) (sn s) t →
      ∃ t', TR n C z (sT (sr_prop C z r s).2) (sR (sr_prop C z r s).2) (sn (sr_prop C z r s).2) (sh (sr_prop C z r s).2) t' ∧ NBR C z (sR (sr_prop C z r s).2) (sn (sr_prop C z r s).2) t' ∧ sn s ≤ sn (sr_prop C z r s).2 ∧ L ≤ numT (sR (sr_prop C z r s).2) (sn (sr_prop C z r s).2) ∧
        (((sr_prop C z r s).1 = -1 ∧ ∀ j, j < z → ¬ BRK C t' (sn (sr_prop C z r s).2) j) ∨ ∃ j, (sr_prop C z r s).1 = nI j ∧ j < z ∧ BRK C t' (sn (sr_prop C z r s).2) j) := by
  intro r
  induction r with
  | zero =>
    intro s t h1 H
    exact absurd (TR_len H).1 (by omega)
  | succ r ih =>
    intro s t h1 H hN hP
    obtain ⟨t', k1, k2, k3, k4, k5⟩ := sweep_ok hn hz hC L z 0 s t (by omega) H hN hP
    unfold sr_prop
    by_cases hb : (sr_sweep C z 0 s).1 ≠ -1
    · rw [if_pos hb]
      refine ⟨t', k1, k2, k3, k4, ?_⟩
      rcases k5 with ⟨h6, _⟩ | h6
      · exact absurd h6 hb
      · exact Or.inr h6
    · rw [if_neg hb]
      have k5 : sn (sr_sweep C z 0 s).2 = sn s → t' = t ∧ (sr_sweep C z 0 s).2 = s ∧ ∀ j, 0 ≤ j → j < z → ¬ BRK C t (sn s) j := by
        rcases k5 with ⟨_, h7⟩ | ⟨j, h7, h8, _⟩
        · exact h7
        · exact absurd (by rw [h7]; exact nI_nm1 (by omega)) hb
      by_cases hg : sn s < sn (sr_sweep C z 0 s).2
      · rw [if_pos hg]
        obtain ⟨t2, j1, j2, j3, j4, j5⟩ := ih (sr_sweep C z 0 s).2 t' (by omega) k1 k2 (Or.inl k4)
        exact ⟨t2, j1, j2, by omega, j4, j5⟩
      · rw [if_neg hg]
        obtain ⟨h8, h9, h10⟩ := k5 (by omega)
        refine ⟨t', k1, k2, k3, k4, Or.inl ⟨Classical.byContradiction hb, fun j hj => ?_⟩⟩
        rw [h8, h9]
        exact h10 j (by omega) hj
end
section
/-! Part 24: a conflict, and what is learned of it -/
theorem dk_cl_at {d : DS} {i : Nat} (h : i < dz d) (hz : dz d < 2 ^ 31) : dk_cl d (nI i) = dC d i := by
  unfold dk_cl
  rw [if_pos ⟨nI_pos' (by omega), nI_lt h hz⟩, nI_clamp (by omega)]
theorem ld_spec (R : Nat → Int32) : ∀ len, sr_ld R len ≤ len ∧ (sr_ld R len ≠ 0 → R (sr_ld R len - 1) = -1) ∧ ∀ k, sr_ld R len ≤ k → k < len → R k ≠ -1 := by
  intro len
  induction len with
  | zero => exact ⟨Nat.le_refl _, fun h => absurd rfl h, fun k _ h => absurd h (by omega)⟩
  | succ len ih =>
    unfold sr_ld
    by_cases h : R len = -1
    · rw [if_pos h]
      exact ⟨Nat.le_refl _, fun _ => h, fun k h1 h2 => absurd h1 (by omega)⟩
    · rw [if_neg h]
      refine ⟨by omega, ih.2.1, fun k h1 h2 => ?_⟩
      by_cases e : k = len
      · subst e; exact h
      · exact ih.2.2 k h1 (by omega)
theorem b_sror (T : Nat → Int32) (i : Nat) : ∀ k a x, bt (sr_or T k a x) i = true ↔ bt x i = true ∨ ∃ j, a ≤ j ∧ j < a + k ∧ bt (T j) i = true := by
  intro k
  induction k with
  | zero =>
    intro a x
    constructor
    · exact Or.inl
    · rintro (h | ⟨j, h1, h2, _⟩)
      · exact h
      · exact absurd h2 (by omega)
  | succ k ih =>
    intro a x
    show bt (sr_or T k (a + 1) (x ||| T a)) i = true ↔ _
    rw [ih, b_or, Bool.or_eq_true]
    constructor
    · rintro ((h | h) | ⟨j, h1, h2, h3⟩)
      · exact Or.inl h
      · exact Or.inr ⟨a, by omega, by omega, h⟩
      · exact Or.inr ⟨j, by omega, by omega, h3⟩
    · rintro (h | ⟨j, h1, h2, h3⟩)
      · exact Or.inl (Or.inl h)
      · by_cases e : j = a
        · subst e; exact Or.inl (Or.inr h3)
        · exact Or.inr ⟨j, by omega, by omega, h3⟩
theorem b_late {n : Nat} {C : Nat → Int32} {z : Nat} {s : SS} {t : Nat → Nat} (H : TR n C z (sT s) (sR s) (sn s) (sh s) t) (i : Nat) : bt (sr_late s) i = true ↔ i < 20 ∧ ∃ j, sr_ld (sR s) (sn s) - 1 ≤ j ∧ j < sn s ∧ t j = cn i := by
  have hl := (ld_spec (sR s) (sn s)).1
  unfold sr_late
  rw [b_negI, b_sror, b_0]
  constructor
  · rintro ⟨h1, h2⟩
    refine ⟨h1, ?_⟩
    rcases h2 with h2 | ⟨j, h2, h3, h4⟩
    · exact absurd h2 (by decide)
    · have h5 : j < sn s := by omega
      rw [(H.1 j h5).2.2, b_sb (by have := (H.1 j h5).1; omega), decide_eq_true_eq] at h4
      exact ⟨j, h2, h5, h4.symm⟩
  · rintro ⟨h1, j, h2, h3, h4⟩
    refine ⟨h1, Or.inr ⟨j, h2, by omega, ?_⟩⟩
    rw [(H.1 j h3).2.2, b_sb (by have := (H.1 j h3).1; omega), decide_eq_true_eq]
    exact h4.symm
/-- the checker's replay of k links from place a on -/
def REP (C K : Nat → Int32) (i : Nat) : Nat → Nat → Int32 → Int32 → Prop
  | 0, _, x, y => x = y
  | k + 1, a, x, y => ∃ r, K a = nI r ∧ r < i ∧ cc_single (x &&& cc_neg (C r)) ∧ REP C K i k (a + 1) ((x &&& ((x &&& cc_neg (C r)) ^^^ (-1))) ||| (C r &&& (cc_neg (x &&& cc_neg (C r)) ^^^ (-1)))) y
theorem REP_snoc {C K : Nat → Int32} {i : Nat} {y w : Int32} : ∀ (k a : Nat) (x : Int32), REP C K i k a x y → (∃ r, K (a + k) = nI r ∧ r < i ∧ cc_single (y &&& cc_neg (C r)) ∧ w = (y &&& ((y &&& cc_neg (C r)) ^^^ (-1))) ||| (C r &&& (cc_neg (y &&& cc_neg (C r)) ^^^ (-1)))) → REP C K i (k + 1) a x w := by
  intro k
  induction k with
  | zero =>
    intro a x h1 h2
    have h1 : x = y := h1
    subst h1
    obtain ⟨r, e1, e2, e3, e4⟩ := h2
    exact ⟨r, e1, e2, e3, e4.symm⟩
  | succ k ih =>
    intro a x h1 h2
    obtain ⟨r, e1, e2, e3, e4⟩ := h1
    refine ⟨r, e1, e2, e3, ih (a + 1) _ e4 ?_⟩
    rw [show a + 1 + k = a + (k + 1) from by omega]
    exact h2
theorem REP_congr {C K C' K' : Nat → Int32} {i : Nat} {y : Int32} (hC : ∀ j, j < i → C' j = C j) : ∀ (k a : Nat) (x : Int32), (∀ j, a ≤ j → j < a + k → K' j = K j) → REP C K i k a x y → REP C' K' i k a x y := by
  intro k
  induction k with
  | zero => intro a x _ h; exact h
  | succ k ih =>
    intro a x hK h
    obtain ⟨r, e1, e2, e3, e4⟩ := h
    refine ⟨r, ?_, e2, ?_, ?_⟩
    · rw [hK a (by omega) (by omega)]; exact e1
    · rw [hC r e2]; exact e3
    · rw [hC r e2]
      exact ih (a + 1) _ (fun j h1 h2 => hK j (by omega) (by omega)) e4
def DER (C F T K : Nat → Int32) (lk i : Nat) : Prop := ∃ f k r, F i = nI f ∧ T i = nI (f + 1 + k) ∧ f + 1 + k ≤ lk ∧ K f = nI r ∧ r < i ∧ REP C K i k (f + 1) (C r) (C i)
theorem DER_congr {C F T K C' F' T' K' : Nat → Int32} {lk lk' i : Nat} (hC : ∀ j, j < i + 1 → C' j = C j) (hF : F' i = F i) (hT : T' i = T i) (hK : ∀ j, j < lk → K' j = K j) (hl : lk ≤ lk') (h : DER C F T K lk i) : DER C' F' T' K' lk' i := by
  obtain ⟨f, k, r, e1, e2, e3, e4, e5, e6⟩ := h
  refine ⟨f, k, r, by rw [hF, e1], by rw [hT, e2], by omega, by rw [hK f (by omega)]; exact e4, e5, ?_⟩
  rw [hC r (by omega), hC i (by omega)]
  exact REP_congr (fun j hj => hC j (by omega)) k (f + 1) _ (fun j h1 h2 => hK j (by omega)) e6
/-- a question's docket: L bounds the conflicts so far, g counts what was given -/
def DK (n : Nat) (d : DS) (L g : Nat) : Prop :=
  CLS n (dC d) (dz d) ∧ dz d ≤ g + L ∧ dl d ≤ pS L ∧ dO d = dl d ∧
  (∀ i, i < dz d → dF d i = -1 ∨ DER (dC d) (dF d) (dT d) (dK d) (dl d) i) ∧
  (∀ M : Nat → Bool, (∀ i, i < dz d → dF d i = -1 → sat M (dC d i)) → ∀ i, i < dz d → sat M (dC d i))
def LTE (ld len : Nat) (t : Nat → Nat) (x : Int32) : Prop := ∃ i j, bt x i = true ∧ ld - 1 ≤ j ∧ j < len ∧ t j = cn i
theorem LTE_mk {ld len : Nat} {t : Nat → Nat} {x : Int32} (i j : Nat) (h1 : bt x i = true) (h2 : ld - 1 ≤ j) (h3 : j < len) (h4 : t j = cn i) : LTE ld len t x := ⟨i, j, h1, h2, h3, h4⟩
def RI (n : Nat) (d0 : DS) (len : Nat) (t : Nat → Nat) (ld b k : Nat) (x : Int32) (d : DS) (q : Nat) : Prop :=
  (dC d = dC d0 ∧ dF d = dF d0 ∧ dT d = dT d0 ∧ dz d = dz d0 ∧ dO d = dO d0) ∧ dl d = dl d0 + 1 + q ∧ q ≤ len - k ∧ (∀ j, j < dl d0 → dK d j = dK d0 j) ∧ dK d (dl d0) = nI b ∧ REP (dC d0) (dK d) (dz d0) q (dl d0 + 1) (dC d0 b) x ∧
  (∀ i, bt x i = true → i < 20 ∧ i % 10 < n ∧ ∃ j, j < k ∧ t j = cn i) ∧ (ld ≠ 0 → LTE ld len t x) ∧ (∀ M : Nat → Bool, (∀ i, i < dz d0 → sat M (dC d0 i)) → sat M x)
def RP (n : Nat) (d0 : DS) (len : Nat) (t : Nat → Nat) (ld b : Nat) (y : Int32) (d : DS) : Prop :=
  (dC d = dC d0 ∧ dF d = dF d0 ∧ dT d = dT d0 ∧ dz d = dz d0 ∧ dO d = dO d0) ∧ (∃ q, dl d = dl d0 + 1 + q ∧ q ≤ len - ld ∧ (∀ j, j < dl d0 → dK d j = dK d0 j) ∧ dK d (dl d0) = nI b ∧ REP (dC d0) (dK d) (dz d0) q (dl d0 + 1) (dC d0 b) y) ∧
  (∀ i, bt y i = true → i < 20 ∧ i % 10 < n) ∧ (ld = 0 → y = 0) ∧
  (ld ≠ 0 → ∃ a, bt y a = true ∧ (∃ j, ld - 1 ≤ j ∧ j < len ∧ t j = cn a) ∧ ∀ i, bt y i = true → i ≠ a → ∃ j, j < ld - 1 ∧ t j = cn i) ∧ (∀ M : Nat → Bool, (∀ i, i < dz d0 → sat M (dC d0 i)) → sat M y)
theorem two_bits {x : Int32} {a : Nat} (ha : a < 31) (h1 : bt x a = true) (h2 : ¬ cc_single x) : ∃ b, b ≠ a ∧ bt x b = true := by
  apply Classical.byContradiction
  intro hn
  apply h2
  apply single_iff ha
  intro i
  constructor
  · intro hi
    apply Classical.byContradiction
    intro hne
    exact hn ⟨i, hne, hi⟩
  · rintro rfl; exact h1
theorem res_ok {n : Nat} {d0 : DS} {T R : Nat → Int32} {len : Nat} {h : Int32} {t : Nat → Nat} {b : Nat} {la : Int32} (H : TR n (dC d0) (dz d0) T R len h t) (hC : CLS n (dC d0) (dz d0)) (hz : dz d0 < 2 ^ 31)
    (hla : ∀ i, bt la i = true ↔ i < 20 ∧ ∃ j, sr_ld R len - 1 ≤ j ∧ j < len ∧ t j = cn i) (hbd : dl d0 + 1 + (len - sr_ld R len) ≤ 3060) :
    ∀ (k : Nat) (x : Int32) (d : DS) (q : Nat), sr_ld R len ≤ k → k ≤ len → RI n d0 len t (sr_ld R len) b k x d q → RP n d0 len t (sr_ld R len) b (sr_res T R (sr_ld R len) la k x d).1 (sr_res T R (sr_ld R len) la k x d).2 := by
  obtain ⟨hl1, hl2, hl3⟩ := ld_spec R len
  generalize sr_ld R len = ld at *
  intro k
  induction k with
  | zero =>
    intro x d q hk hk2 hI
    obtain ⟨i1, i2, i3, i4, i5, i6, i7, i8, i9⟩ := hI
    have h0 : ld = 0 := by omega
    refine ⟨i1, ⟨q, i2, by omega, i4, i5, i6⟩, fun i hi => ⟨(i7 i hi).1, (i7 i hi).2.1⟩, fun _ => ?_, fun hne => absurd h0 hne, i9⟩
    show x = 0
    rw [b_eq0]
    intro i
    cases hb : bt x i with
    | false => rfl
    | true =>
      obtain ⟨_, _, j, hj, _⟩ := i7 i hb
      exact absurd hj (by omega)
  | succ k ih =>
    intro x d q hk hk2 hI
    have hI0 := hI
    obtain ⟨i1, i2, i3, i4, i5, i6, i7, i8, i9⟩ := hI
    unfold sr_res
    by_cases c1 : k < ld
    · rw [if_pos c1]
      have e : ld = k + 1 := by omega
      refine ⟨i1, ⟨q, i2, by omega, i4, i5, i6⟩, fun i hi => ⟨(i7 i hi).1, (i7 i hi).2.1⟩, fun h0 => absurd h0 (by omega), fun _ => ?_, i9⟩
      obtain ⟨a, j, ha, hj1, hj2, hj3⟩ := i8 (by omega)
      refine ⟨a, ha, ⟨j, hj1, hj2, hj3⟩, fun i hi hne => ?_⟩
      obtain ⟨_, _, j', hj', ej'⟩ := i7 i hi
      obtain ⟨a20, _, j2, hj2', ej2⟩ := i7 a ha
      have e1 : j2 = j := H.2.1 j2 j (by omega) hj2 (by rw [ej2, hj3])
      refine ⟨j', ?_, ej'⟩
      by_cases e2 : j' = ld - 1
      · have e3 : j' = j := by omega
        rw [e3, hj3] at ej'
        exact absurd (cn_inj a20 (i7 i hi).1 ej').symm hne
      · omega
    · rw [if_neg c1]
      by_cases c2 : ld ≠ 0 ∧ cc_singleB (x &&& la) = true
      · rw [if_pos c2]
        refine ⟨i1, ⟨q, i2, by omega, i4, i5, i6⟩, fun i hi => ⟨(i7 i hi).1, (i7 i hi).2.1⟩, fun h0 => absurd h0 c2.1, fun _ => ?_, i9⟩
        obtain ⟨a, _, ha⟩ := single_of (singleB_iff.1 c2.2)
        have h1 := (ha a).2 rfl
        rw [b_and, Bool.and_eq_true] at h1
        refine ⟨a, h1.1, ((hla a).1 h1.2).2, fun i hi hne => ?_⟩
        obtain ⟨h20, _, j, hj, ej⟩ := i7 i hi
        refine ⟨j, ?_, ej⟩
        apply Classical.byContradiction
        intro hj2
        apply hne
        apply (ha i).1
        rw [b_and, Bool.and_eq_true]
        exact ⟨hi, (hla i).2 ⟨h20, j, by omega, by omega, ej⟩⟩
      · rw [if_neg c2]
        have hk3 : k < len := by omega
        obtain ⟨t20, tn, Te⟩ := H.1 k hk3
        rw [Te, neg_sb t20]
        by_cases c3 : x &&& sb (cn (t k)) = 0
        · rw [if_pos c3]
          refine ih x d q (by omega) (by omega) ⟨i1, i2, by omega, i4, i5, i6, fun i hi => ?_, i8, i9⟩
          obtain ⟨h20, hn, j, hj, ej⟩ := i7 i hi
          refine ⟨h20, hn, j, ?_, ej⟩
          by_cases e : j = k
          · subst e
            refine absurd (b_and0.1 c3 i hi ?_) (fun f => f)
            rw [b_sb (by have := cn_lt t20; omega), decide_eq_true_eq, ej, cn_cn h20]
          · omega
        · rw [if_neg c3]
          have hcn := cn_lt t20
          have hx : bt x (cn (t k)) = true := by
            obtain ⟨i, hi⟩ := b_ne0.1 c3
            rw [b_and, Bool.and_eq_true, b_sb (by omega), decide_eq_true_eq] at hi
            rw [← hi.2]; exact hi.1
          obtain ⟨r, eR, hr, hbr, hoth⟩ := H.2.2.2.2 k hk3 (hl3 k (by omega) hk3)
          have ecl : dk_cl d (R k) = dC d0 r := by
            rw [eR, dk_cl_at (by rw [i1.2.2.2.1]; exact hr) (by rw [i1.2.2.2.1]; exact hz), i1.1]
          have eclash : x &&& cc_neg (dC d0 r) = sb (cn (t k)) := by
            apply sb_of (by omega)
            intro i
            rw [b_and, Bool.and_eq_true, b_negI]
            constructor
            · rintro ⟨h1, h2, h3⟩
              apply Classical.byContradiction
              intro hne
              have h4 : cn i ≠ t k := fun e => hne (by rw [← e, cn_cn h2])
              obtain ⟨j, hj, ej⟩ := hoth (cn i) h3 h4
              rw [cn_cn h2] at ej
              obtain ⟨_, _, j', hj', ej'⟩ := i7 i h1
              rw [← ej] at ej'
              exact TR_opp H (by omega) (by omega) ej'
            · rintro rfl
              exact ⟨hx, hcn, by rw [cn_cn t20]; exact hbr⟩
          have elink : dk_link d (R k) = (dC d, dF d, dT d, upd (dK d) (dl d) (nI r), dz d, dl d + 1, dO d) := by
            unfold dk_link
            rw [if_pos (by omega), eR]
          rw [ecl, elink]
          have est : ((x &&& (sb (cn (t k)) ^^^ (-1))) ||| (dC d0 r &&& (sb (t k) ^^^ (-1)))) = rs_step x (dC d0 r) (t k) := rfl
          rw [est]
          refine ih _ _ (q + 1) (by omega) (by omega) ⟨i1, ?_, by omega, ?_, ?_, ?_, ?_, ?_, ?_⟩
          · show dl d + 1 = dl d0 + 1 + (q + 1)
            omega
          · intro j hj
            show upd (dK d) (dl d) (nI r) j = dK d0 j
            rw [pk_un (by omega)]
            exact i4 j hj
          · show upd (dK d) (dl d) (nI r) (dl d0) = nI b
            rw [pk_un (by omega)]
            exact i5
          · show REP (dC d0) (upd (dK d) (dl d) (nI r)) (dz d0) (q + 1) (dl d0 + 1) (dC d0 b) _
            refine REP_snoc (y := x) q _ _ (REP_congr (fun _ _ => rfl) q _ _ (fun j h1 h2 => pk_un (by omega)) i6) ⟨r, ?_, hr, ?_, ?_⟩
            · rw [show dl d0 + 1 + q = dl d from by omega, pk_us]
            · rw [eclash]; exact single_sb (by omega)
            · rw [eclash, neg_sb hcn, cn_cn t20]; rfl
          · intro i hi
            rcases (b_step x (dC d0 r) t20 i).1 hi with ⟨h1, h2⟩ | ⟨h1, h2⟩
            · obtain ⟨h20, hn, j, hj, ej⟩ := i7 i h1
              refine ⟨h20, hn, j, ?_, ej⟩
              by_cases e : j = k
              · subst e
                exact absurd (by rw [ej, cn_cn h20]) h2
              · omega
            · obtain ⟨j, hj, ej⟩ := hoth i h1 h2
              obtain ⟨h20, hvn⟩ := hC r hr i h1
              exact ⟨h20, hvn, j, hj, ej⟩
          · intro hne
            have hns : ¬ cc_single (x &&& la) := fun hs => c2 ⟨hne, singleB_iff.2 hs⟩
            obtain ⟨a, j, ha, hj1, hj2, hj3⟩ := i8 hne
            have ha20 := (i7 a ha).1
            have hal : bt (x &&& la) a = true := by
              rw [b_and, Bool.and_eq_true]
              exact ⟨ha, (hla a).2 ⟨ha20, j, hj1, hj2, hj3⟩⟩
            obtain ⟨a2, hne2, hal2⟩ := two_bits (by omega) hal hns
            rw [b_and, Bool.and_eq_true] at hal2
            by_cases e : a = cn (t k)
            · obtain ⟨_, j2, h1, h2, h3⟩ := (hla a2).1 hal2.2
              exact LTE_mk a2 j2 ((b_step x _ t20 a2).2 (Or.inl ⟨hal2.1, by rw [← e]; exact hne2⟩)) h1 h2 h3
            · exact LTE_mk a j ((b_step x _ t20 a).2 (Or.inl ⟨ha, e⟩)) hj1 hj2 hj3
          · intro M hM
            exact sat_step t20 (i9 M hM) (hM r hr)
end
section
/-! Part 25: learning, deciding, and the whole search -/
theorem jump_spec {T R : Nat → Int32} {y : Int32} {dec : Nat} : ∀ (k g : Nat), k ≤ g → R g = -1 → (∀ j, k ≤ j → j < dec → y &&& cc_neg (T j) = 0) →
    sr_jump T R y k g ≤ g ∧ R (sr_jump T R y k g) = -1 ∧ ∀ j, sr_jump T R y k g ≤ j → j < dec → y &&& cc_neg (T j) = 0 := by
  intro k
  induction k with
  | zero => intro g _ h2 h3; exact ⟨Nat.le_refl _, h2, fun j _ h => h3 j (by omega) h⟩
  | succ k ih =>
    intro g h1 h2 h3
    unfold sr_jump
    by_cases c : y &&& cc_neg (T k) = 0
    · rw [if_pos c]
      have h4 : ∀ j, k ≤ j → j < dec → y &&& cc_neg (T j) = 0 := by
        intro j hj hd
        by_cases e : j = k
        · subst e; exact c
        · exact h3 j (by omega) hd
      by_cases c2 : R k = -1
      · rw [if_pos c2]
        obtain ⟨a1, a2, a3⟩ := ih k (Nat.le_refl _) c2 h4
        exact ⟨by omega, a2, a3⟩
      · rw [if_neg c2]
        exact ih g (by omega) h2 h4
    · rw [if_neg c]
      exact ⟨Nat.le_refl _, h2, fun j hj hd => h3 j (by omega) hd⟩
theorem b_cutH {T : Nat → Int32} {g i : Nat} : ∀ (k : Nat) (h : Int32), bt (sr_cutH T g k h) i = true ↔ bt h i = true ∧ ∀ j, g ≤ j → j < k → bt (T j) i = false := by
  intro k
  induction k with
  | zero => intro h; exact ⟨fun a => ⟨a, fun j _ hj => absurd hj (by omega)⟩, fun a => a.1⟩
  | succ k ih =>
    intro h
    unfold sr_cutH
    by_cases c : k < g
    · rw [if_pos c]
      exact ⟨fun a => ⟨a, fun j h1 h2 => absurd h1 (by omega)⟩, fun a => a.1⟩
    · rw [if_neg c, ih, b_diff, Bool.and_eq_true, Bool.not_eq_true']
      constructor
      · rintro ⟨⟨a1, a2⟩, a3⟩
        refine ⟨a1, fun j h1 h2 => ?_⟩
        by_cases e : j = k
        · subst e; exact a2
        · exact a3 j h1 (by omega)
      · rintro ⟨a1, a2⟩
        exact ⟨⟨a1, a2 k (by omega) (by omega)⟩, fun j h1 h2 => a2 j h1 (by omega)⟩
theorem TR_cut {n : Nat} {C : Nat → Int32} {z : Nat} {T R : Nat → Int32} {len : Nat} {h : Int32} {t : Nat → Nat} (H : TR n C z T R len h t) {g : Nat} (hg : g ≤ len) : TR n C z T R g (sr_cutH T g len h) t := by
  obtain ⟨H1, H2, H3, H4, H5⟩ := H
  refine ⟨fun k hk => H1 k (by omega), fun j k hj hk e => H2 j k (by omega) (by omega) e, fun i => ?_, fun k hk e => H4 k (by omega) e, fun k hk e => H5 k (by omega) e⟩
  rw [b_cutH, H3 i]
  constructor
  · rintro ⟨⟨k, hk, e⟩, h2⟩
    refine ⟨k, ?_, e⟩
    apply Classical.byContradiction
    intro hge
    have h3 := h2 k (by omega) hk
    rw [(H1 k hk).2.2, b_sb (by have := (H1 k hk).1; omega), decide_eq_false_iff_not] at h3
    exact h3 e.symm
  · rintro ⟨k, hk, e⟩
    refine ⟨⟨k, by omega, e⟩, fun j h1 h2 => ?_⟩
    rw [(H1 j h2).2.2, b_sb (by have := (H1 j h2).1; omega), decide_eq_false_iff_not]
    intro e2
    have := H2 j k h2 (by omega) (by rw [e, e2])
    omega
theorem TR_more {n : Nat} {C C' : Nat → Int32} {z z' : Nat} {T R : Nat → Int32} {len : Nat} {h : Int32} {t : Nat → Nat} (H : TR n C z T R len h t) (hz : z ≤ z') (hC : ∀ i, i < z → C' i = C i) : TR n C' z' T R len h t := by
  obtain ⟨H1, H2, H3, H4, H5⟩ := H
  refine ⟨H1, H2, H3, H4, fun k hk e => ?_⟩
  obtain ⟨r, a1, a2, a3, a4⟩ := H5 k hk e
  exact ⟨r, a1, by omega, by rw [hC r a2]; exact a3, fun i hi hne => a4 i (by rw [← hC r a2]; exact hi) hne⟩
theorem BRK_congr {C C' : Nat → Int32} {t : Nat → Nat} {k i : Nat} (h : C' i = C i) (H : BRK C' t k i) : BRK C t k i := fun l hl => H l (by rw [h]; exact hl)
/-- the docket behind a learned clause -/
theorem derive_eq {d : DS} (h : dz d < 1575) (c : Int32) : dk_derive d c = (upd (dC d) (dz d) c, upd (dF d) (dz d) (nI (dO d)), upd (dT d) (dz d) (nI (dl d)), dK d, dz d + 1, dl d, dl d) := by
  unfold dk_derive dk_append
  rw [if_pos h]
theorem give_eq {d : DS} (h : dz d < 1575) (c : Int32) : dk_give d c = (upd (dC d) (dz d) c, upd (dF d) (dz d) (-1), upd (dT d) (dz d) (-1), dK d, dz d + 1, dl d, dO d) := by
  unfold dk_give dk_append
  rw [if_pos h]
theorem DK_up {n : Nat} {d : DS} {L L' g : Nat} (h : DK n d L g) (hL : L ≤ L') : DK n d L' g := by
  obtain ⟨h1, h2, h3, h4, h5, h6⟩ := h
  exact ⟨h1, by omega, Nat.le_trans h3 (pS_mono L' hL), h4, h5, h6⟩
theorem learn_ok {n : Nat} (hn : n ≤ 10) {d : DS} {s : SS} {t : Nat → Nat} {b L g : Nat} (hg : g ≤ 551) (D : DK n d L g) (H : TR n (dC d) (dz d) (sT s) (sR s) (sn s) (sh s) t) (hN : NBR (dC d) (dz d) (sR s) (sn s) t) (hL : L ≤ numT (sR s) (sn s)) (hb : b < dz d) (hB : BRK (dC d) t (sn s) b) :
    DK n (sr_learn d s (nI b)).2.1 (numT (sR s) (sn s) + 1) g ∧ numT (sR s) (sn s) + 1 ≤ 1024 ∧
    (((sr_learn d s (nI b)).1 = 0 ∧ dz (sr_learn d s (nI b)).2.1 = dz d + 1 ∧ dC (sr_learn d s (nI b)).2.1 (dz d) = 0 ∧ dF (sr_learn d s (nI b)).2.1 (dz d) ≠ -1 ∧ (∀ i, i < dz d → dC (sr_learn d s (nI b)).2.1 i = dC d i ∧ dF (sr_learn d s (nI b)).2.1 i = dF d i)) ∨
     ((sr_learn d s (nI b)).1 ≠ 0 ∧ dz (sr_learn d s (nI b)).2.1 = dz d + 1 ∧ dF (sr_learn d s (nI b)).2.1 (dz d) ≠ -1 ∧ (∀ i, i < dz d → dC (sr_learn d s (nI b)).2.1 i = dC d i ∧ dF (sr_learn d s (nI b)).2.1 i = dF d i) ∧
      TR n (dC (sr_learn d s (nI b)).2.1) (dz (sr_learn d s (nI b)).2.1) (sT (sr_learn d s (nI b)).2.2) (sR (sr_learn d s (nI b)).2.2) (sn (sr_learn d s (nI b)).2.2) (sh (sr_learn d s (nI b)).2.2) t ∧
      NBR (dC (sr_learn d s (nI b)).2.1) (dz (sr_learn d s (nI b)).2.1) (sR (sr_learn d s (nI b)).2.2) (sn (sr_learn d s (nI b)).2.2) t ∧
      PND (dC (sr_learn d s (nI b)).2.1) (dz (sr_learn d s (nI b)).2.1) 0 (numT (sR s) (sn s) + 1) (sR (sr_learn d s (nI b)).2.2) (sn (sr_learn d s (nI b)).2.2) t)) := by
  obtain ⟨D1, D2, D3, D4, D5, D6⟩ := D
  have hlen := (TR_len H).1
  have hN1 := numT_le (sR s) (sn s) (by omega)
  have hp2 : 0 < 2 ^ (10 - sn s) := Nat.pow_pos (by omega)
  obtain ⟨hl1, hl2, hl3⟩ := ld_spec (sR s) (sn s)
  have hrun := lr_run (sR s) hl1 (by omega) hl2 hl3
  have hS1 : pS (numT (sR s) (sn s) + 1) = pS (numT (sR s) (sn s)) + (1 + lr0 11 (numT (sR s) (sn s))) := rfl
  have hS2 : pS (numT (sR s) (sn s) + 1) ≤ pS 1024 := pS_mono 1024 (by omega)
  have hS3 : pS L ≤ pS (numT (sR s) (sn s)) := pS_mono _ hL
  have hS4 := pS_end
  have hz31 : dz d < 2 ^ 31 := by omega
  have elk : dk_link d (nI b) = (dC d, dF d, dT d, upd (dK d) (dl d) (nI b), dz d, dl d + 1, dO d) := by
    unfold dk_link
    rw [if_pos (by omega)]
  have hR := res_ok (b := b) (la := sr_late s) H D1 hz31 (b_late H) (by omega) (sn s) (dC d b) (dk_link d (nI b)) 0 hl1 (Nat.le_refl _) (by
    rw [elk]
    refine ⟨⟨rfl, rfl, rfl, rfl, rfl⟩, rfl, by omega, fun j hj => pk_un (by omega), pk_us, rfl, fun i hi => ?_, fun hne => ?_, fun M hM => hM b hb⟩
    · exact ⟨(D1 b hb i hi).1, (D1 b hb i hi).2, hB i hi⟩
    · apply Classical.byContradiction
      intro hno
      refine hN (sr_ld (sR s) (sn s) - 1) (by omega) (hl2 hne) b hb (fun l hl => ?_)
      obtain ⟨j, hj, ej⟩ := hB l hl
      refine ⟨j, ?_, ej⟩
      apply Classical.byContradiction
      intro hge
      exact hno (LTE_mk l j hl (by omega) hj ej))
  have el1 : sr_learn1 d s (nI b) = sr_res (sT s) (sR s) (sr_ld (sR s) (sn s)) (sr_late s) (sn s) (dC d b) (dk_link d (nI b)) := by
    unfold sr_learn1
    rw [dk_cl_at hb hz31]
  unfold sr_learn
  rw [el1]
  generalize sr_res (sT s) (sR s) (sr_ld (sR s) (sn s)) (sr_late s) (sn s) (dC d b) (dk_link d (nI b)) = yd at hR ⊢
  obtain ⟨y, d2⟩ := yd
  obtain ⟨⟨a1, a2, a3, a4, a5⟩, ⟨q, q1, q2, q3, q4, q5⟩, r1, r2, r3, r4⟩ := hR
  have a1 : dC d2 = dC d := a1
  have a2 : dF d2 = dF d := a2
  have a3 : dT d2 = dT d := a3
  have a4 : dz d2 = dz d := a4
  have a5 : dO d2 = dO d := a5
  have q1 : dl d2 = dl d + 1 + q := q1
  have hde : dk_derive d2 y = (upd (dC d) (dz d) y, upd (dF d) (dz d) (nI (dl d)), upd (dT d) (dz d) (nI (dl d2)), dK d2, dz d + 1, dl d2, dl d2) := by
    rw [derive_eq (by rw [a4]; omega), a1, a2, a3, a4, a5, D4]
  have hdl31 : dl d < 2 ^ 31 := by omega
  show DK n (dk_derive d2 y) _ g ∧ _ ∧ ((y = 0 ∧ dz (dk_derive d2 y) = _ ∧ dC (dk_derive d2 y) _ = 0 ∧ dF (dk_derive d2 y) _ ≠ -1 ∧ _) ∨ _)
  rw [hde]
  have hdocket : DK n (upd (dC d) (dz d) y, upd (dF d) (dz d) (nI (dl d)), upd (dT d) (dz d) (nI (dl d2)), dK d2, dz d + 1, dl d2, dl d2) (numT (sR s) (sn s) + 1) g := by
    refine ⟨?_, ?_, ?_, rfl, ?_, ?_⟩
    · intro i hi l hl
      have hi : i < dz d + 1 := hi
      have hl : bt (upd (dC d) (dz d) y i) l = true := hl
      by_cases e : i = dz d
      · subst e; rw [pk_us] at hl; exact r1 l hl
      · rw [pk_un e] at hl; exact D1 i (by omega) l hl
    · show dz d + 1 ≤ _
      omega
    · show dl d2 ≤ _
      omega
    · intro i hi
      have hi : i < dz d + 1 := hi
      show upd (dF d) (dz d) (nI (dl d)) i = -1 ∨ DER (upd (dC d) (dz d) y) (upd (dF d) (dz d) (nI (dl d))) (upd (dT d) (dz d) (nI (dl d2))) (dK d2) (dl d2) i
      by_cases e : i = dz d
      · subst e
        refine Or.inr ⟨dl d, q, b, pk_us, ?_, by omega, q4, hb, ?_⟩
        · rw [pk_us, q1]
        · rw [pk_us, pk_un (show b ≠ dz d by omega)]
          exact REP_congr (C := dC d) (fun j hj => pk_un (by omega)) q (dl d + 1) (dC d b) (fun _ _ _ => rfl) q5
      · rcases D5 i (by omega) with h | h
        · exact Or.inl (by rw [pk_un e]; exact h)
        · exact Or.inr (DER_congr (fun j hj => pk_un (by omega)) (pk_un e) (pk_un e) q3 (by omega) h)
    · intro M hM i hi
      have hi : i < dz d + 1 := hi
      have hM : ∀ i, i < dz d + 1 → upd (dF d) (dz d) (nI (dl d)) i = -1 → sat M (upd (dC d) (dz d) y i) := hM
      have hM2 : ∀ i, i < dz d → sat M (dC d i) := D6 M (fun j hj e => by
        have h1 := hM j (by omega) (by rw [pk_un (by omega)]; exact e)
        rw [pk_un (by omega)] at h1
        exact h1)
      show sat M (upd (dC d) (dz d) y i)
      by_cases e : i = dz d
      · subst e; rw [pk_us]; exact r4 M hM2
      · rw [pk_un e]; exact hM2 i (by omega)
  refine ⟨hdocket, by omega, ?_⟩
  have hFne : upd (dF d) (dz d) (nI (dl d)) (dz d) ≠ -1 := by rw [pk_us]; exact nI_nm1 hdl31
  have hold : ∀ i, i < dz d → upd (dC d) (dz d) y i = dC d i ∧ upd (dF d) (dz d) (nI (dl d)) i = dF d i := fun i hi => ⟨pk_un (by omega), pk_un (by omega)⟩
  by_cases h0 : sr_ld (sR s) (sn s) = 0
  · refine Or.inl ⟨r2 h0, rfl, ?_, hFne, hold⟩
    show upd (dC d) (dz d) y (dz d) = 0
    rw [pk_us]; exact r2 h0
  · obtain ⟨a, ha, ⟨j0, j1, j2, j3⟩, hoth⟩ := r3 h0
    have ha20 := (r1 a ha).1
    have hy0 : y ≠ 0 := b_ne0.2 ⟨a, ha⟩
    obtain ⟨g1, g2, g3⟩ := jump_spec (T := sT s) (R := sR s) (y := y) (dec := sr_ld (sR s) (sn s) - 1) (sr_ld (sR s) (sn s) - 1) (sr_ld (sR s) (sn s) - 1) (Nat.le_refl _) (hl2 h0) (fun j h1 h2 => absurd h2 (by omega))
    have ecut : sr_cut s (sr_jump (sT s) (sR s) y (sr_ld (sR s) (sn s) - 1) (sr_ld (sR s) (sn s) - 1)) = (sT s, sR s, sr_jump (sT s) (sR s) y (sr_ld (sR s) (sn s) - 1) (sr_ld (sR s) (sn s) - 1), sr_cutH (sT s) (sr_jump (sT s) (sR s) y (sr_ld (sR s) (sn s) - 1) (sr_ld (sR s) (sn s) - 1)) (sn s) (sh s)) := by
      unfold sr_cut
      rw [if_neg (by omega)]
    show _ ∨ (y ≠ 0 ∧ _ ∧ _ ∧ _ ∧ TR n (upd (dC d) (dz d) y) (dz d + 1) (sT (sr_cut s _)) (sR (sr_cut s _)) (sn (sr_cut s _)) (sh (sr_cut s _)) t ∧ NBR (upd (dC d) (dz d) y) (dz d + 1) (sR (sr_cut s _)) (sn (sr_cut s _)) t ∧ PND (upd (dC d) (dz d) y) (dz d + 1) 0 _ (sR (sr_cut s _)) (sn (sr_cut s _)) t)
    rw [ecut]
    generalize sr_jump (sT s) (sR s) y (sr_ld (sR s) (sn s) - 1) (sr_ld (sR s) (sn s) - 1) = tg at g1 g2 g3 ⊢
    have htg : tg < sn s := by omega
    -- a denied literal of the learned clause stands before tg, but for the one
    have hoth2 : ∀ i, bt y i = true → i ≠ a → ∃ j, j < tg ∧ t j = cn i := by
      intro i hi hne
      obtain ⟨j, hj, ej⟩ := hoth i hi hne
      refine ⟨j, ?_, ej⟩
      apply Classical.byContradiction
      intro hge
      have h1 := g3 j (by omega) hj
      obtain ⟨t20, _, Te⟩ := H.1 j (by omega)
      rw [Te, neg_sb t20] at h1
      refine b_and0.1 h1 i hi ?_
      rw [b_sb (by have := cn_lt t20; omega), decide_eq_true_eq, ej, cn_cn (r1 i hi).1]
    have hnb : ∀ k, k ≤ tg → ¬ BRK (upd (dC d) (dz d) y) t k (dz d) := by
      intro k hk hBr
      obtain ⟨j, hj, ej⟩ := hBr a (by rw [pk_us]; exact ha)
      have := H.2.1 j j0 (by omega) j2 (by rw [ej, j3])
      omega
    refine Or.inr ⟨hy0, rfl, hFne, hold, ?_, ?_, ?_⟩
    · exact TR_more (TR_cut H (g := tg) (Nat.le_of_lt htg)) (Nat.le_succ _) (fun i hi => pk_un (Nat.ne_of_lt hi))
    · intro k hk e i hi hBr
      have hk : k < tg := hk
      have hi : i < dz d + 1 := hi
      by_cases ei : i = dz d
      · subst ei; exact hnb k (by omega) hBr
      · exact hN k (by omega) e i (by omega) (BRK_congr (pk_un ei) hBr)
    · refine Or.inr ⟨by show tg ≤ 9; omega, ?_, ?_, dz d, by omega, Nat.lt_succ_self _, ?_⟩
      · show numT (sR s) (sn s) + 1 ≤ numT (sR s) tg + 2 ^ (9 - tg)
        have h1 : numT (sR s) (sn s) + 2 ^ (10 - sn s) ≤ numT (sR s) (tg + 1) + 2 ^ (10 - (tg + 1)) := by
          have h9 : ∀ b, tg + 1 ≤ b → b ≤ 10 → numT (sR s) b + 2 ^ (10 - b) ≤ numT (sR s) (tg + 1) + 2 ^ (10 - (tg + 1)) := by
            intro b
            induction b with
            | zero => intro h _; exact absurd h (by omega)
            | succ b ih =>
              intro h hb
              rcases Nat.lt_or_ge b (tg + 1) with h1 | h1
              · rw [show b = tg from by omega]; exact Nat.le_refl _
              · have h2 := ih h1 (by omega)
                rw [p10 (show b ≤ 9 by omega)] at h2
                rw [show 10 - (b + 1) = 9 - b from by omega]
                have h3 : numT (sR s) (b + 1) ≤ numT (sR s) b + 2 ^ (9 - b) := by
                  show numT (sR s) b + (if sR s b = -1 then 0 else 2 ^ (9 - b)) ≤ _
                  split <;> omega
                omega
          exact h9 (sn s) (by omega) (by omega)
        have h2 : numT (sR s) (tg + 1) = numT (sR s) tg := by
          show numT (sR s) tg + (if sR s tg = -1 then 0 else 2 ^ (9 - tg)) = _
          rw [if_pos g2]; rfl
        rw [show 10 - (tg + 1) = 9 - tg from by omega] at h1
        omega
      · intro i hi hBr
        have hi : i < dz d + 1 := hi
        by_cases ei : i = dz d
        · subst ei; exact hnb tg (Nat.le_refl _) hBr
        · exact hN tg htg g2 i (by omega) (BRK_congr (pk_un ei) hBr)
      · refine ⟨a, ha20, by rw [pk_us]; exact ha, fun j hj e => ?_, fun i hi hne => ?_⟩
        · have hj : j < tg := hj
          have := H.2.1 j j0 (by omega) j2 (by rw [e, j3, cn_var ha20])
          omega
        · rw [pk_us] at hi
          exact hoth2 i hi hne
end
section
/-! Part 26: deciding, the whole search, and what it answers -/
theorem b_pos : ∀ n, n < 11 → ∀ i, i < 32 → bt (cc_pos n) i = decide (i < n) := by decide +kernel
theorem b_free {n : Nat} (hn : n ≤ 10) {h : Int32} {v : Nat} : bt (cc_free n h) v = true ↔ v < n ∧ bt h v = false ∧ bt h (cn v) = false := by
  unfold cc_free
  rw [b_diff, Bool.and_eq_true, b_or, b_neg]
  constructor
  · rintro ⟨h1, h2⟩
    have h3 := b_lt h1
    rw [b_pos n (by omega) v h3, decide_eq_true_eq] at h1
    rw [decide_eq_true (show v < 20 by omega)] at h2
    simp at h2
    exact ⟨h1, h2⟩
  · rintro ⟨h1, h2, h3⟩
    rw [b_pos n (by omega) v (by omega), decide_eq_true_eq, h2, h3]
    simp
    exact h1
theorem TR_room {n : Nat} {C : Nat → Int32} {z : Nat} {T R : Nat → Int32} {len : Nat} {h : Int32} {t : Nat → Nat} (_ : TR n C z T R len h t) (hl : len < n) : ∃ v, v < n ∧ ∀ k, k < len → t k % 10 ≠ v := by
  apply Classical.byContradiction
  intro hno
  have h1 : ∀ v, ∃ k, v < n → k < len ∧ t k % 10 = v := by
    intro v
    apply Classical.byContradiction
    intro h2
    apply hno
    refine ⟨v, ?_, fun k hk e => h2 ⟨k, fun _ => ⟨hk, e⟩⟩⟩
    apply Classical.byContradiction
    intro h3
    exact h2 ⟨0, fun h4 => absurd h4 h3⟩
  have h2 := php len n (fun v => Classical.choose (h1 v)) (fun v hv => (Classical.choose_spec (h1 v) hv).1) (fun a b ha hb e => by
    have e : Classical.choose (h1 a) = Classical.choose (h1 b) := e
    rw [← (Classical.choose_spec (h1 a) ha).2, ← (Classical.choose_spec (h1 b) hb).2, e])
  omega
theorem decide_ok {n : Nat} (hn : n ≤ 10) {C : Nat → Int32} {z : Nat} {s : SS} {t : Nat → Nat} (H : TR n C z (sT s) (sR s) (sn s) (sh s) t) (hN : NBR C z (sR s) (sn s) t) (hl : sn s < n) (hB : ∀ j, j < z → ¬ BRK C t (sn s) j) :
    ∃ t', TR n C z (sT (sr_decide n s)) (sR (sr_decide n s)) (sn (sr_decide n s)) (sh (sr_decide n s)) t' ∧ NBR C z (sR (sr_decide n s)) (sn (sr_decide n s)) t' ∧ sn (sr_decide n s) = sn s + 1 ∧ numT (sR (sr_decide n s)) (sn (sr_decide n s)) = numT (sR s) (sn s) := by
  have hfree : ∀ v, bt (cc_free n (sh s)) v = true ↔ v < n ∧ ∀ k, k < sn s → t k % 10 ≠ v := by
    intro v
    rw [b_free hn]
    constructor
    · rintro ⟨h1, h2, h3⟩
      refine ⟨h1, fun k hk e => ?_⟩
      rcases cn_same (H.1 k hk).1 (show v < 20 by omega) (by omega) with h4 | h4
      · have h5 := (H.2.2.1 v).2 ⟨k, hk, h4⟩
        rw [h2] at h5; exact absurd h5 (by decide)
      · have h5 := (H.2.2.1 (cn v)).2 ⟨k, hk, h4⟩
        rw [h3] at h5; exact absurd h5 (by decide)
    · rintro ⟨h1, h2⟩
      refine ⟨h1, ?_, ?_⟩
      · cases hb : bt (sh s) v with
        | false => rfl
        | true =>
          obtain ⟨k, hk, e⟩ := (H.2.2.1 v).1 hb
          exact absurd (by rw [e]; omega) (h2 k hk)
      · cases hb : bt (sh s) (cn v) with
        | false => rfl
        | true =>
          obtain ⟨k, hk, e⟩ := (H.2.2.1 (cn v)).1 hb
          exact absurd (by rw [e, cn_var (by omega)]; omega) (h2 k hk)
  obtain ⟨v, hv, hvf⟩ := TR_room H hl
  obtain ⟨l, hl10, el, bl, hlow⟩ := low_bit (x := cc_free n (sh s)) (fun i hi => by have := ((hfree i).1 hi).1; omega) (b_ne0.2 ⟨v, (hfree v).2 ⟨hv, hvf⟩⟩)
  obtain ⟨hln, hlf⟩ := (hfree l).1 bl
  have ecn : cn l = l + 10 := if_pos hl10
  have e1 : cc_neg (cc_free n (sh s) &&& (-(cc_free n (sh s)))) = sb (l + 10) := by rw [el, neg_sb (by omega), ecn]
  obtain ⟨g1, g2⟩ := TR_hold H (l := l + 10) (r := -1) (by omega) (by omega) (fun k hk => by rw [show (l + 10) % 10 = l from by omega]; exact hlf k hk) (Or.inl ⟨rfl, by omega, fun w hw => by
    apply Classical.byContradiction
    intro hno
    have h1 := hlow w (by omega)
    rw [(hfree w).2 ⟨by omega, fun k hk e => hno ⟨k, hk, e⟩⟩] at h1
    exact absurd h1 (by decide)⟩)
  have e2 : sr_decide n s = (upd (sT s) (sn s) (sb (l + 10)), upd (sR s) (sn s) (-1), sn s + 1, sh s ||| sb (l + 10)) := by
    unfold sr_decide sr_hold
    rw [if_pos (by omega), e1]
  rw [e2]
  refine ⟨tu t (sn s) (l + 10), g2, ?_, rfl, ?_⟩
  · intro k hk e i hi hBr
    have hk : k < sn s + 1 := hk
    have e : upd (sR s) (sn s) (-1) k = -1 := e
    have hBr2 : BRK C t k i := fun m hm => by
      obtain ⟨j, hj, ej⟩ := hBr m hm
      rw [tu_n (by omega)] at ej
      exact ⟨j, hj, ej⟩
    by_cases ek : k = sn s
    · subst ek; exact hB i hi hBr2
    · rw [pk_un ek] at e
      exact hN k (by omega) e i hi hBr2
  · show numT (upd (sR s) (sn s) (-1)) (sn s) + (if upd (sR s) (sn s) (-1) (sn s) = -1 then 0 else 2 ^ (9 - sn s)) = numT (sR s) (sn s)
    rw [pk_us, if_pos rfl, numT_congr (R' := sR s) (sn s) (fun j hj => pk_un (by omega))]
    rfl
/-- a docket that grew by derived clauses alone -/
def EXT (d d' : DS) : Prop := dz d ≤ dz d' ∧ (∀ i, i < dz d → dC d' i = dC d i ∧ dF d' i = dF d i) ∧ ∀ i, dz d ≤ i → i < dz d' → dF d' i ≠ -1
theorem EXT_rf (d : DS) : EXT d d := ⟨Nat.le_refl _, fun _ _ => ⟨rfl, rfl⟩, fun i h1 h2 => absurd h2 (by omega)⟩
theorem EXT_tr {a b c : DS} (h1 : EXT a b) (h2 : EXT b c) : EXT a c := by
  obtain ⟨p1, p2, p3⟩ := h1
  obtain ⟨q1, q2, q3⟩ := h2
  refine ⟨by omega, fun i hi => ?_, fun i h3 h4 => ?_⟩
  · have h5 := p2 i hi
    have h6 := q2 i (by omega)
    exact ⟨h6.1.trans h5.1, h6.2.trans h5.2⟩
  · rcases Nat.lt_or_ge i (dz b) with h5 | h5
    · rw [(q2 i h5).2]; exact p3 i h3 h5
    · exact q3 i h5 h4
/-- the search between two of its steps -/
def FI (n : Nat) (d : DS) (s : SS) (t : Nat → Nat) (L g : Nat) : Prop := DK n d L g ∧ TR n (dC d) (dz d) (sT s) (sR s) (sn s) (sh s) t ∧ NBR (dC d) (dz d) (sR s) (sn s) t ∧ PND (dC d) (dz d) 0 L (sR s) (sn s) t ∧ L ≤ 1024
/-- it found one -/
def FT (n : Nat) (d : DS) (s : SS) (t : Nat → Nat) (L g : Nat) : Prop := DK n d L g ∧ TR n (dC d) (dz d) (sT s) (sR s) (sn s) (sh s) t ∧ NBR (dC d) (dz d) (sR s) (sn s) t ∧ L ≤ numT (sR s) (sn s) ∧ L ≤ 1024 ∧ sn s = n ∧ ∀ j, j < dz d → ¬ BRK (dC d) t (sn s) j
/-- it found none -/
def FF (n : Nat) (d : DS) (L g : Nat) : Prop := DK n d L g ∧ L ≤ 1024 ∧ 0 < dz d ∧ dC d (dz d - 1) = 0 ∧ dF d (dz d - 1) ≠ -1
theorem find_ok {n : Nat} (hn : n ≤ 10) {g : Nat} (hg : g ≤ 551) : ∀ (f : Nat) (d : DS) (s : SS) (t : Nat → Nat) (L : Nat), FI n d s t L g → (1024 - L) * 11 + (10 - sn s) < f →
    EXT d (sr_find n f d s).2.1 ∧ (((sr_find n f d s).1 = true ∧ ∃ t' L', FT n (sr_find n f d s).2.1 (sr_find n f d s).2.2 t' L' g) ∨ ((sr_find n f d s).1 = false ∧ ∃ L', FF n (sr_find n f d s).2.1 L' g)) := by
  intro f
  induction f with
  | zero => intro d s t L _ h; exact absurd h (by omega)
  | succ f ih =>
    intro d s t L hF hm
    obtain ⟨D, H, hN, hP, hL⟩ := hF
    have hz31 : dz d < 2 ^ 31 := by
      have := D.2.1
      omega
    obtain ⟨t1, H1, hN1, hle, hL1, hres⟩ := prop_ok hn hz31 D.1 L 11 s t (by omega) H hN hP
    unfold sr_find
    generalize sr_prop (dC d) (dz d) 11 s = bs at H1 hN1 hle hL1 hres ⊢
    obtain ⟨b, s1⟩ := bs
    have hle : sn s ≤ sn s1 := hle
    have hlen := (TR_len H1).1
    have hlen : sn s1 ≤ n := hlen
    rcases hres with ⟨hb, hnb⟩ | ⟨j, hb, hj, hbr⟩
    · have hb : b = -1 := hb
      rw [if_pos hb]
      by_cases hfull : n ≤ sn s1
      · rw [if_pos hfull]
        refine ⟨EXT_rf d, Or.inl ⟨rfl, t1, L, D, H1, hN1, hL1, hL, ?_, hnb⟩⟩
        show sn s1 = n
        omega
      · rw [if_neg hfull]
        obtain ⟨t2, k1, k2, k3, k4⟩ := decide_ok hn H1 hN1 (by show sn s1 < n; omega) hnb
        have k3 : sn (sr_decide n s1) = sn s1 + 1 := k3
        refine ih d (sr_decide n s1) t2 L ⟨D, k1, k2, Or.inl (by rw [k4]; exact hL1), hL⟩ ?_
        show (1024 - L) * 11 + (10 - sn (sr_decide n s1)) < f
        omega
    · have hb : b = nI j := hb
      have hbne : ¬ b = -1 := by rw [hb]; exact nI_nm1 (by omega)
      rw [if_neg hbne]
      have hK := learn_ok hn hg D H1 hN1 hL1 hj hbr
      show EXT d (if (sr_learn d s1 b).1 = 0 then (false, (sr_learn d s1 b).2.1, (sr_learn d s1 b).2.2) else sr_find n f (sr_learn d s1 b).2.1 (sr_learn d s1 b).2.2).2.1 ∧ _
      rw [hb]
      generalize sr_learn d s1 (nI j) = q at hK ⊢
      obtain ⟨y, d2, s2⟩ := q
      have hL1 : L ≤ numT (sR s1) (sn s1) := hL1
      obtain ⟨K1, K2, K3⟩ := hK
      have K2 : numT (sR s1) (sn s1) + 1 ≤ 1024 := K2
      rcases K3 with ⟨e0, e1, e2, e3, e4⟩ | ⟨e0, e1, e3, e4, e5, e6, e7⟩
      · have e0 : y = 0 := e0
        have e1 : dz d2 = dz d + 1 := e1
        rw [if_pos e0]
        refine ⟨⟨by show dz d ≤ dz d2; omega, e4, fun i h1 h2 => ?_⟩, Or.inr ⟨rfl, numT (sR s1) (sn s1) + 1, K1, K2, by show 0 < dz d2; omega, ?_, ?_⟩⟩
        · have h2 : i < dz d2 := h2
          rw [show i = dz d from by omega]; exact e3
        · show dC d2 (dz d2 - 1) = 0
          rw [show dz d2 - 1 = dz d from by omega]; exact e2
        · show dF d2 (dz d2 - 1) ≠ -1
          rw [show dz d2 - 1 = dz d from by omega]; exact e3
      · have e0 : ¬ y = 0 := e0
        have e1 : dz d2 = dz d + 1 := e1
        rw [if_neg e0]
        have hx : EXT d d2 := ⟨by omega, e4, fun i h1 h2 => by
          rw [show i = dz d from by omega]; exact e3⟩
        obtain ⟨r1, r2⟩ := ih d2 s2 t1 (numT (sR s1) (sn s1) + 1) ⟨K1, e5, e6, e7, K2⟩ (by omega)
        exact ⟨EXT_tr hx r1, r2⟩
/-- an assignment read off the literals that hold -/
def mOf (h : Int32) : Nat → Bool := fun v => bt h v
theorem mv_of {n : Nat} {C : Nat → Int32} {z : Nat} {T R : Nat → Int32} {len : Nat} {h : Int32} {t : Nat → Nat} (H : TR n C z T R len h t) {k : Nat} (hk : k < len) : mv (mOf h) (t k) = true := by
  have h20 := (H.1 k hk).1
  unfold mv mOf
  by_cases c : t k < 10
  · rw [if_pos c]; exact (H.2.2.1 (t k)).2 ⟨k, hk, rfl⟩
  · rw [if_neg c]
    cases hb : bt h (t k - 10) with
    | false => rfl
    | true =>
      obtain ⟨j, hj, ej⟩ := (H.2.2.1 _).1 hb
      exact (TR_opp H hj hk (by rw [ej]; unfold cn; rw [if_neg c])).elim
theorem model_ok {n : Nat} {C : Nat → Int32} {z : Nat} {T R : Nat → Int32} {h : Int32} {t : Nat → Nat} (H : TR n C z T R n h t) (hC : CLS n C z) {j : Nat} (hj : j < z) (hB : ¬ BRK C t n j) : sat (mOf h) (C j) ∧ C j &&& h ≠ 0 := by
  have h1 : ∃ l, bt (C j) l = true ∧ ¬ ∃ k, k < n ∧ t k = cn l := by
    apply Classical.byContradiction
    intro hno
    apply hB
    intro l hl
    apply Classical.byContradiction
    intro h2
    exact hno ⟨l, hl, h2⟩
  obtain ⟨l, hl, hno⟩ := h1
  obtain ⟨h20, hv⟩ := hC j hj l hl
  obtain ⟨k, hk, e⟩ := (TR_len H).2 rfl (l % 10) hv
  have ek : t k = l := by
    rcases cn_same (H.1 k hk).1 h20 e with h3 | h3
    · exact h3
    · exact absurd ⟨k, hk, h3⟩ hno
  refine ⟨⟨l, h20, hl, by rw [← ek]; exact mv_of H hk⟩, fun h0 => ?_⟩
  exact b_and0.1 h0 l hl ((H.2.2.1 l).2 ⟨k, hk, ek⟩)
/-- the found assignment is the least -/
theorem least_ok {n : Nat} {C : Nat → Int32} {z : Nat} {T R : Nat → Int32} {len : Nat} {h : Int32} {t : Nat → Nat} (H : TR n C z T R len h t) {M : Nat → Bool} (hM : ∀ j, j < z → sat M (C j)) {v : Nat} (hv : v < 10) (hh : bt h v = true) (hlow : ∀ u, u < v → M u = bt h u) : M v = true := by
  obtain ⟨k, hk, ek⟩ := (H.2.2.1 v).1 hh
  have key : ∀ j, j ≤ k → mv M (t j) = true := by
    intro j
    induction j using Nat.strongRecOn with
    | ind j ih =>
      intro hj
      have hjl : j < len := by omega
      have h20 := (H.1 j hjl).1
      by_cases c : R j = -1
      · obtain ⟨d1, d2⟩ := H.2.2.2.1 j hjl c
        have hjk : j ≠ k := fun e => by
          subst e; omega
        have h1 : t j - 10 < v := by
          rcases Nat.lt_or_ge (t j - 10) v with h2 | h2
          · exact h2
          · rcases Nat.lt_or_ge v (t j - 10) with h3 | h3
            · obtain ⟨i, hi, ei⟩ := d2 v h3
              have := H.2.1 i k (by omega) hk (by rw [ei, ek]; omega)
              omega
            · have := H.2.1 j k hjl hk (by rw [ek]; omega)
              omega
        unfold mv
        rw [if_neg (by omega), hlow _ h1]
        cases hb : bt h (t j - 10) with
        | false => rfl
        | true =>
          obtain ⟨i, hi, ei⟩ := (H.2.2.1 _).1 hb
          exact (TR_opp H hi hjl (by rw [ei]; unfold cn; rw [if_neg (by omega)])).elim
      · obtain ⟨r, _, hr, hbr, hoth⟩ := H.2.2.2.2 j hjl c
        obtain ⟨i, hi, bi, mi⟩ := hM r hr
        by_cases e : i = t j
        · rw [← e]; exact mi
        · obtain ⟨i2, h1, h2⟩ := hoth i bi e
          have h3 := ih i2 h1 (by omega)
          rw [h2, mv_cn hi, mi] at h3
          exact absurd h3 (by decide)
  have h1 := key k (Nat.le_refl _)
  rw [ek] at h1
  unfold mv at h1
  rw [if_pos hv] at h1
  exact h1
/-- a found assignment is shut out: the search may go on -/
theorem block_ok {n : Nat} {d : DS} {s : SS} {t : Nat → Nat} {L g : Nat} (hg : g ≤ 550) (hn : n ≤ 10) (h : FT n d s t L g) : FI n (dk_give d (cc_neg (sh s))) s t L (g + 1) ∧ dk_give d (cc_neg (sh s)) = (upd (dC d) (dz d) (cc_neg (sh s)), upd (dF d) (dz d) (-1), upd (dT d) (dz d) (-1), dK d, dz d + 1, dl d, dO d) := by
  obtain ⟨D, H, hN, hL, hL2, hfull, hnb⟩ := h
  obtain ⟨D1, D2, D3, D4, D5, D6⟩ := D
  have e := give_eq (d := d) (by omega) (cc_neg (sh s))
  rw [e]
  have hneg : ∀ l, bt (cc_neg (sh s)) l = true → l < 20 ∧ l % 10 < n := by
    intro l hl
    obtain ⟨h20, h1⟩ := b_negI.1 hl
    obtain ⟨k, hk, ek⟩ := (H.2.2.1 _).1 h1
    have h2 := (H.1 k hk).2.1
    rw [ek, cn_var h20] at h2
    exact ⟨h20, h2⟩
  refine ⟨⟨⟨?_, ?_, D3, D4, ?_, ?_⟩, ?_, ?_, Or.inl hL, hL2⟩, rfl⟩
  · intro i hi l hl
    have hi : i < dz d + 1 := hi
    have hl : bt (upd (dC d) (dz d) (cc_neg (sh s)) i) l = true := hl
    by_cases ei : i = dz d
    · subst ei; rw [pk_us] at hl; exact hneg l hl
    · rw [pk_un ei] at hl; exact D1 i (by omega) l hl
  · show dz d + 1 ≤ g + 1 + L
    omega
  · intro i hi
    have hi : i < dz d + 1 := hi
    show upd (dF d) (dz d) (-1) i = -1 ∨ DER (upd (dC d) (dz d) (cc_neg (sh s))) (upd (dF d) (dz d) (-1)) (upd (dT d) (dz d) (-1)) (dK d) (dl d) i
    by_cases ei : i = dz d
    · subst ei; exact Or.inl pk_us
    · rcases D5 i (by omega) with h1 | h1
      · exact Or.inl (by rw [pk_un ei]; exact h1)
      · exact Or.inr (DER_congr (fun j hj => pk_un (by omega)) (pk_un ei) (pk_un ei) (fun _ _ => rfl) (Nat.le_refl _) h1)
  · intro M hM i hi
    have hi : i < dz d + 1 := hi
    have hM : ∀ i, i < dz d + 1 → upd (dF d) (dz d) (-1) i = -1 → sat M (upd (dC d) (dz d) (cc_neg (sh s)) i) := hM
    show sat M (upd (dC d) (dz d) (cc_neg (sh s)) i)
    by_cases ei : i = dz d
    · exact hM i hi (by rw [ei, pk_us])
    · rw [pk_un ei]
      refine D6 M (fun j hj ej => ?_) i (by omega)
      have h1 := hM j (by omega) (by rw [pk_un (by omega)]; exact ej)
      rw [pk_un (by omega)] at h1
      exact h1
  · exact TR_more H (by show dz d ≤ dz d + 1; omega) (fun i hi => pk_un (by omega))
  · intro k hk ek i hi hBr
    have hi : i < dz d + 1 := hi
    by_cases ei : i = dz d
    · subst ei
      have h20 := (H.1 k hk).1
      have hb : bt (upd (dC d) (dz d) (cc_neg (sh s)) (dz d)) (cn (t k)) = true := by
        rw [pk_us, b_negI, cn_cn h20]
        exact ⟨cn_lt h20, (H.2.2.1 _).2 ⟨k, hk, rfl⟩⟩
      obtain ⟨j, hj, ej⟩ := hBr _ hb
      rw [cn_cn h20] at ej
      have := H.2.1 j k (by omega) hk (by rw [ej])
      omega
    · exact hN k hk ek i (by omega) (BRK_congr (pk_un ei) hBr)
/-- where it found none there is none -/
theorem none_ok {n : Nat} {d : DS} {L g : Nat} (h : FF n d L g) {M : Nat → Bool} (hM : ∀ i, i < dz d → dF d i = -1 → sat M (dC d i)) : False := by
  obtain ⟨D, _, h0, h1, _⟩ := h
  have h2 := D.2.2.2.2.2 M hM (dz d - 1) (by omega)
  rw [h1] at h2
  exact sat_0 h2
end
section
/-! Part 27: assignments as numbers, variable 1 the highest digit -/
def AS (x n : Nat) : Nat → Bool := fun j => decide (j < n) && x.testBit (n - 1 - j)
/-- the reference's values(x) -/
def rv (x : Nat) : Nat → Nat
  | 0 => 0
  | k + 1 => 2 * rv x k + (x / 2 ^ k) % 2
theorem two_bit {a b : Nat} (hb : b < 2) (j : Nat) : (2 * a + b).testBit (j + 1) = a.testBit j := by
  rw [Nat.testBit_succ, show (2 * a + b) / 2 = a from by omega]
theorem two_bit0 {a b : Nat} (hb : b < 2) : (2 * a + b).testBit 0 = decide (b = 1) := by
  rw [Nat.testBit_zero]
  congr 1
  exact propext ⟨fun h => by omega, fun h => by omega⟩
theorem rv_bit (x : Nat) : ∀ (n j : Nat), (rv x n).testBit j = AS x n j := by
  intro n
  induction n with
  | zero => intro j; show (0 : Nat).testBit j = _; unfold AS; rw [Nat.zero_testBit, decide_eq_false (by omega), Bool.false_and]
  | succ n ih =>
    intro j
    have hb : (x / 2 ^ n) % 2 < 2 := Nat.mod_lt _ (by omega)
    cases j with
    | zero =>
      show (2 * rv x n + (x / 2 ^ n) % 2).testBit 0 = _
      rw [two_bit0 hb]
      unfold AS
      rw [decide_eq_true (show 0 < n + 1 by omega), Bool.true_and, show n + 1 - 1 - 0 = n from by omega, Nat.testBit_eq_decide_div_mod_eq]
    | succ j =>
      show (2 * rv x n + (x / 2 ^ n) % 2).testBit (j + 1) = _
      rw [two_bit hb, ih]
      unfold AS
      rw [show n + 1 - 1 - (j + 1) = n - 1 - j from by omega]
      by_cases h : j < n
      · rw [decide_eq_true h, decide_eq_true (show j + 1 < n + 1 by omega)]
      · rw [decide_eq_false h, decide_eq_false (show ¬ j + 1 < n + 1 by omega)]
theorem rv_lt (x : Nat) : ∀ n, rv x n < 2 ^ n := by
  intro n
  induction n with
  | zero => exact Nat.zero_lt_one
  | succ n ih =>
    have hb : (x / 2 ^ n) % 2 < 2 := Nat.mod_lt _ (by omega)
    show 2 * rv x n + (x / 2 ^ n) % 2 < 2 ^ (n + 1)
    rw [Nat.pow_succ]
    omega
/-- the number of an assignment that is read off literals -/
def xo (h : Int32) : Nat → Nat
  | 0 => 0
  | k + 1 => 2 * xo h k + if bt h k = true then 1 else 0
theorem xo_bit (h : Int32) : ∀ (n i : Nat), (xo h n).testBit i = (decide (i < n) && bt h (n - 1 - i)) := by
  intro n
  induction n with
  | zero => intro j; show (0 : Nat).testBit j = _; rw [Nat.zero_testBit, decide_eq_false (by omega), Bool.false_and]
  | succ n ih =>
    intro j
    have hb : (if bt h n = true then 1 else 0) < 2 := by split <;> omega
    cases j with
    | zero =>
      show (2 * xo h n + if bt h n = true then 1 else 0).testBit 0 = _
      rw [two_bit0 hb, decide_eq_true (show 0 < n + 1 by omega), Bool.true_and, show n + 1 - 1 - 0 = n from by omega]
      cases hc : bt h n with
      | false => rfl
      | true => rfl
    | succ j =>
      show (2 * xo h n + if bt h n = true then 1 else 0).testBit (j + 1) = _
      rw [two_bit hb, ih, show n + 1 - 1 - (j + 1) = n - 1 - j from by omega]
      by_cases h : j < n
      · rw [decide_eq_true h, decide_eq_true (show j + 1 < n + 1 by omega)]
      · rw [decide_eq_false h, decide_eq_false (show ¬ j + 1 < n + 1 by omega)]
theorem xo_lt (h : Int32) : ∀ n, xo h n < 2 ^ n := by
  intro n
  induction n with
  | zero => exact Nat.zero_lt_one
  | succ n ih =>
    have hb : (if bt h n = true then 1 else 0) < 2 := by split <;> omega
    show 2 * xo h n + (if bt h n = true then 1 else 0) < 2 ^ (n + 1)
    rw [Nat.pow_succ]
    omega
theorem AS_xo {h : Int32} {n v : Nat} (hv : v < n) : AS (xo h n) n v = bt h v := by
  unfold AS
  rw [decide_eq_true hv, Bool.true_and, xo_bit, decide_eq_true (show n - 1 - v < n by omega), Bool.true_and, show n - 1 - (n - 1 - v) = v from by omega]
theorem lt_bit : ∀ (x y : Nat), y < x → ∃ i, y.testBit i = false ∧ x.testBit i = true ∧ ∀ j, i < j → y.testBit j = x.testBit j := by
  intro x
  induction x using Nat.strongRecOn with
  | ind x ih =>
    intro y h
    rcases Nat.lt_or_ge (y / 2) (x / 2) with h1 | h1
    · obtain ⟨i, a1, a2, a3⟩ := ih (x / 2) (by omega) (y / 2) h1
      refine ⟨i + 1, by rw [Nat.testBit_succ]; exact a1, by rw [Nat.testBit_succ]; exact a2, fun j hj => ?_⟩
      obtain ⟨j, rfl⟩ : ∃ k, j = k + 1 := ⟨j - 1, by omega⟩
      rw [Nat.testBit_succ, Nat.testBit_succ]
      exact a3 j (by omega)
    · have e : y / 2 = x / 2 := by omega
      refine ⟨0, ?_, ?_, fun j hj => ?_⟩
      · rw [Nat.testBit_zero]; exact decide_eq_false (by omega)
      · rw [Nat.testBit_zero]; exact decide_eq_true (by omega)
      · obtain ⟨j, rfl⟩ : ∃ k, j = k + 1 := ⟨j - 1, by omega⟩
        rw [Nat.testBit_succ, Nat.testBit_succ, e]
theorem sat_congr {n : Nat} {c : Int32} (hc : ∀ l, bt c l = true → l < 20 ∧ l % 10 < n) {M M' : Nat → Bool} (h : ∀ v, v < n → M v = M' v) : sat M c → sat M' c := by
  rintro ⟨i, hi, bi, mi⟩
  refine ⟨i, hi, bi, ?_⟩
  have h1 := (hc i bi).2
  rw [← mi]
  unfold mv
  split
  · rw [h i (by omega)]
  · rw [h (i - 10) (by omega)]
/-- the found one is the least number -/
theorem least_num {n : Nat} (hn : n ≤ 10) {C : Nat → Int32} {z : Nat} {T R : Nat → Int32} {h : Int32} {t : Nat → Nat} (H : TR n C z T R n h t) {y : Nat} (hM : ∀ j, j < z → sat (AS y n) (C j)) : xo h n ≤ y := by
  rcases Nat.lt_or_ge y (xo h n) with h1 | h1
  · exfalso
    obtain ⟨i, a1, a2, a3⟩ := lt_bit _ _ h1
    rw [xo_bit, Bool.and_eq_true, decide_eq_true_eq] at a2
    have h2 := least_ok H hM (v := n - 1 - i) (by omega) a2.2 (fun u hu => by
      unfold AS
      rw [decide_eq_true (show u < n by omega), Bool.true_and, a3 (n - 1 - u) (by omega), xo_bit, decide_eq_true (show n - 1 - u < n by omega), Bool.true_and, show n - 1 - (n - 1 - u) = u from by omega])
    unfold AS at h2
    rw [decide_eq_true (show n - 1 - i < n by omega), Bool.true_and, show n - 1 - (n - 1 - i) = i from by omega, a1] at h2
    exact absurd h2 (by decide)
  · exact h1
/-- the clause that shuts a found assignment out is false at its number alone -/
theorem block_num {n : Nat} (hn : n ≤ 10) {C : Nat → Int32} {z : Nat} {T R : Nat → Int32} {h : Int32} {t : Nat → Nat} (H : TR n C z T R n h t) {y : Nat} (hy : y < 2 ^ n) : sat (AS y n) (cc_neg h) ↔ y ≠ xo h n := by
  have hbit : ∀ v, v < n → (bt h (cn v) = true ↔ bt h v = false) := by
    intro v hv
    constructor
    · intro h1
      cases hb : bt h v with
      | false => rfl
      | true =>
        obtain ⟨k, hk, ek⟩ := (H.2.2.1 _).1 h1
        obtain ⟨j, hj, ej⟩ := (H.2.2.1 _).1 hb
        exact (TR_opp H hk hj (by rw [ek, ej])).elim
    · intro h1
      obtain ⟨k, hk, ek⟩ := (TR_len H).2 rfl v hv
      rcases cn_same (H.1 k hk).1 (show v < 20 by omega) (by omega) with h2 | h2
      · rw [(H.2.2.1 v).2 ⟨k, hk, h2⟩] at h1
        exact absurd h1 (by decide)
      · exact (H.2.2.1 _).2 ⟨k, hk, h2⟩
  have hlit : ∀ l, bt (cc_neg h) l = true → l < 20 ∧ l % 10 < n := by
    intro l hl
    obtain ⟨h20, h1⟩ := b_negI.1 hl
    obtain ⟨k, hk, ek⟩ := (H.2.2.1 _).1 h1
    have h2 := (H.1 k hk).2.1
    rw [ek, cn_var h20] at h2
    exact ⟨h20, h2⟩
  constructor
  · rintro ⟨l, hl, bl, ml⟩ rfl
    have h3 := (hlit l bl).2
    have h4 := (b_negI.1 bl).2
    unfold mv at ml
    by_cases c : l < 10
    · rw [if_pos c, AS_xo (by omega)] at ml
      have h5 := (hbit l (by omega)).1 h4
      rw [ml] at h5
      exact absurd h5 (by decide)
    · rw [if_neg c, AS_xo (by omega)] at ml
      have h6 : cn l = l - 10 := if_neg c
      rw [h6] at h4
      rw [h4] at ml
      exact absurd ml (by decide)
  · intro hne
    have h1 : ∃ v, v < n ∧ AS y n v ≠ bt h v := by
      apply Classical.byContradiction
      intro hno
      apply hne
      apply Nat.eq_of_testBit_eq
      intro i
      rw [xo_bit]
      by_cases hi : i < n
      · have h2 : AS y n (n - 1 - i) = bt h (n - 1 - i) := Classical.byContradiction (fun h3 => hno ⟨n - 1 - i, by omega, h3⟩)
        rw [decide_eq_true hi, Bool.true_and, ← h2]
        unfold AS
        rw [decide_eq_true (show n - 1 - i < n by omega), Bool.true_and, show n - 1 - (n - 1 - i) = i from by omega]
      · rw [decide_eq_false hi, Bool.false_and]
        exact Nat.testBit_lt_two_pow (Nat.lt_of_lt_of_le hy (Nat.pow_le_pow_right (by omega) (by omega)))
    obtain ⟨v, hv, hd⟩ := h1
    cases hb : bt h v with
    | false =>
      rw [hb] at hd
      refine ⟨v, by omega, b_negI.2 ⟨by omega, (hbit v hv).2 hb⟩, ?_⟩
      unfold mv
      rw [if_pos (by omega)]
      cases ha : AS y n v with
      | true => rfl
      | false => exact absurd ha hd
    | true =>
      rw [hb] at hd
      have ecn : cn v = v + 10 := if_pos (by omega)
      refine ⟨v + 10, by omega, b_negI.2 ⟨by omega, ?_⟩, ?_⟩
      · rw [← ecn, cn_cn (by omega)]; exact hb
      · unfold mv
        rw [if_neg (by omega), show v + 10 - 10 = v from by omega]
        cases ha : AS y n v with
        | true => exact absurd ha hd
        | false => rfl
end
section
/-! Part 30: Literals and Docket, by program (wip/whole/gen_docket.py) -/
def cc_of (x : Int32) : Int32 := if 0 < x then 1 <<< ((x - 1) &&& 31) else 1 <<< ((10 - x - 1) &&& 31)
def DW (d : DS) : Prop := dz d ≤ 1575 ∧ dl d ≤ 3060
abbrev wD (cI : ClassId) (h a1 a2 a3 a4 : Nat) (d : DS) : va_W := [(h, .inr (1, [.ref a1, .ref a2, .ref a3, .ref a4, .int (nI (dz d)), .int (nI (dl d)), .int (nI (dO d))])), (a1, .inl (cI, 1575, .inl (dC d))), (a2, .inl (cI, 1575, .inl (dF d))), (a3, .inl (cI, 1575, .inl (dT d))), (a4, .inl (cI, 3060, .inl (dK d)))]
theorem nar_if (P : Prop) {_ : Decidable P} : narrow .boolean (.int (if P then 1 else 0)) = .int (if P then 1 else 0) := by split <;> decide +kernel
theorem nar_if2 (P : Prop) {_ : Decidable P} : narrow .boolean (.int (if P then 0 else 1)) = .int (if P then 0 else 1) := by split <;> decide +kernel
theorem it1 {P : Prop} {_ : Decidable P} (h : ¬ (if P then (1 : Int32) else 0) = 0) : P := by
  by_cases hp : P
  · exact hp
  · rw [if_neg hp] at h; exact absurd rfl h
theorem it0 {P : Prop} {_ : Decidable P} (h : (if P then (1 : Int32) else 0) = 0) : ¬ P := fun hp => by
  rw [if_pos hp] at h; exact absurd h (by decide)
theorem vin_of {i : Int32} {n N : Nat} (h1 : 0 ≤ i) (h2 : i < nI n) (h3 : n ≤ N) (hN : N < 2 ^ 31) : vp_in i N := by
  rw [vp_in_iff]
  have e1 := Int32.le_iff_toInt_le.mp h1
  have e2 := Int32.lt_iff_toInt_lt.mp h2
  rw [nI_toInt (by omega)] at e2
  rw [show (0 : Int32).toInt = 0 from by decide +kernel] at e1
  omega
theorem hc9ge {d : DS} (h : (3060 : Int32) ≤ nI (dl d)) (hl : dl d < 3060) : False := Int32.not_le.mpr (nI_lt (b := 3060) hl (by decide)) h
theorem hc9gz {d : DS} (h : (1575 : Int32) ≤ nI (dz d)) (hl : dz d < 1575) : False := Int32.not_le.mpr (nI_lt (b := 1575) hl (by decide)) h
theorem keep_eq {d : DS} (hz : dz d ≤ 1575) {g : Nat} (hg : g ≤ 1575) : (if (if nI g < 0 then 0 else nI g) < nI (dz d) then (if nI g < 0 then 0 else nI g) else nI (dz d)) = nI (if dz d ≤ g then dz d else g) := by
  rw [if_neg (nI_pos (n := g) (by omega))]
  by_cases h : dz d ≤ g
  · rw [if_pos h, if_neg (nI_nlt h (by omega))]
  · rw [if_neg h, if_pos (nI_lt (by omega) (by omega))]
set_option maxHeartbeats 4000000 in
set_option maxRecDepth 100000 in
theorem k_L_of (l : Launch) (D : va_G) (x : Int32) : KTi l y_L_of c_L_of 1 .int { frames := 0, cells := 0, slots := 0, locals := 0 } D [] [.int x] [] (cc_of x) [] := by
  refine KTi_of (own := R_L) (by decide +kernel) rfl (Nat.le_of_ble_eq_true rfl) (vp_nar_int _) ?_
  intro p e s m below meth c A ls Q hx hb hml hts hown hK hP hD hS hA hl fin
  refine lv_iload_n hx hb d_L_of_0 rfl (lv_at hl 0 rfl) ?_
  refine lv_if_le (tgt := 12) hx hb d_L_of_1 rfl (fun hc1 => ?_) (fun hc1 => ?_)
  · refine lv_iconst (v := 1) hx hb d_L_of_12 (by decide) ?_
    refine lv_bipush (v := 10) hx hb d_L_of_13 (by decide +kernel) ?_
    refine lv_iload_n hx hb d_L_of_15 rfl (lv_at hl 0 rfl) ?_
    refine lv_isub hx hb d_L_of_16 ?_
    refine lv_iconst (v := 1) hx hb d_L_of_17 (by decide) ?_
    refine lv_isub hx hb d_L_of_18 ?_
    refine lv_ishl hx hb d_L_of_19 ?_
    exact fin _ _ _ _ _ hP hD hS (by unfold cc_of; rw [if_neg (Int32.not_lt.mpr hc1)]) d_L_of_20
  · refine lv_iconst (v := 1) hx hb d_L_of_4 (by decide) ?_
    refine lv_iload_n hx hb d_L_of_5 rfl (lv_at hl 0 rfl) ?_
    refine lv_iconst (v := 1) hx hb d_L_of_6 (by decide) ?_
    refine lv_isub hx hb d_L_of_7 ?_
    refine lv_ishl hx hb d_L_of_8 ?_
    refine lv_goto (tgt := 20) hx hb d_L_of_9 rfl ?_
    exact fin _ _ _ _ _ hP hD hS (by unfold cc_of; rw [if_pos (Int32.not_le.mp hc1)]) d_L_of_20
set_option maxHeartbeats 4000000 in
set_option maxRecDepth 100000 in
theorem k_L_opposite (l : Launch) (D : va_G) (x : Int32) : KTi l y_L_opposite c_L_opposite 3 .int { frames := 0, cells := 0, slots := 0, locals := 0 } D [] [.int x] [] (cc_neg x) [] := by
  refine KTi_of (own := R_L) (by decide +kernel) rfl (Nat.le_of_ble_eq_true rfl) (vp_nar_int _) ?_
  intro p e s m below meth c A ls Q hx hb hml hts hown hK hP hD hS hA hl fin
  refine lv_iload_n hx hb d_L_opposite_0 rfl (lv_at hl 0 rfl) ?_
  refine lv_sipush (v := 1023) hx hb d_L_opposite_1 (by decide +kernel) ?_
  refine lv_iand hx hb d_L_opposite_4 ?_
  refine lv_istore_n (lv' := [(1, .int (x &&& 1023)), (0, .int x)]) hx hb d_L_opposite_5 rfl hl (by decide) rfl (fun ls hl => ?_)
  refine lv_iload_n hx hb d_L_opposite_6 rfl (lv_at hl 1 rfl) ?_
  refine lv_bipush (v := 10) hx hb d_L_opposite_7 (by decide +kernel) ?_
  refine lv_iushr (v := ((x : Int32).toUInt32 >>> ((10 : Int32).toUInt32 &&& Int32.toUInt32 31)).toInt32) hx hb d_L_opposite_9 rfl ?_
  refine lv_sipush (v := 1023) hx hb d_L_opposite_10 (by decide +kernel) ?_
  refine lv_iand hx hb d_L_opposite_13 ?_
  refine lv_istore_n (lv' := [(2, .int (((x : Int32).toUInt32 >>> ((10 : Int32).toUInt32 &&& Int32.toUInt32 31)).toInt32 &&& 1023)), (1, .int (x &&& 1023)), (0, .int x)]) hx hb d_L_opposite_14 rfl hl (by decide) rfl (fun ls hl => ?_)
  refine lv_iload_n hx hb d_L_opposite_15 rfl (lv_at hl 1 rfl) ?_
  refine lv_bipush (v := 10) hx hb d_L_opposite_16 (by decide +kernel) ?_
  refine lv_ishl hx hb d_L_opposite_18 ?_
  refine lv_iload_n hx hb d_L_opposite_19 rfl (lv_at hl 0 rfl) ?_
  refine lv_ior hx hb d_L_opposite_20 ?_
  exact fin _ _ _ _ _ hP hD hS (rfl) d_L_opposite_21
set_option maxHeartbeats 4000000 in
set_option maxRecDepth 100000 in
theorem k_L_isSingle (l : Launch) (D : va_G) (x : Int32) : KTi l y_L_isSingle c_L_isSingle 1 .boolean { frames := 0, cells := 0, slots := 0, locals := 0 } D [] [.int x] [] (if cc_singleB x = true then 1 else 0) [] := by
  refine KTi_of (own := R_L) (by decide +kernel) rfl (Nat.le_of_ble_eq_true rfl) (nar_if _) ?_
  intro p e s m below meth c A ls Q hx hb hml hts hown hK hP hD hS hA hl fin
  refine lv_iload_n hx hb d_L_isSingle_0 rfl (lv_at hl 0 rfl) ?_
  refine lv_if_eq (tgt := 16) hx hb d_L_isSingle_1 rfl (fun hc1 => ?_) (fun hc1 => ?_)
  · refine lv_iconst (v := 0) hx hb d_L_isSingle_16 (by decide) ?_
    exact fin _ _ _ _ _ hP hD hS (by rw [hc1]; rfl) d_L_isSingle_17
  · refine lv_iload_n hx hb d_L_isSingle_4 rfl (lv_at hl 0 rfl) ?_
    refine lv_iload_n hx hb d_L_isSingle_5 rfl (lv_at hl 0 rfl) ?_
    refine lv_iconst (v := 1) hx hb d_L_isSingle_6 (by decide) ?_
    refine lv_isub hx hb d_L_isSingle_7 ?_
    refine lv_iand hx hb d_L_isSingle_8 ?_
    refine lv_if_ne (tgt := 16) hx hb d_L_isSingle_9 rfl (fun hc9 => ?_) (fun hc9 => ?_)
    · refine lv_iconst (v := 0) hx hb d_L_isSingle_16 (by decide) ?_
      exact fin _ _ _ _ _ hP hD hS (by rw [if_neg (fun h => hc9 (singleB_iff.1 h).2)]) d_L_isSingle_17
    · refine lv_iconst (v := 1) hx hb d_L_isSingle_12 (by decide) ?_
      refine lv_goto (tgt := 17) hx hb d_L_isSingle_13 rfl ?_
      exact fin _ _ _ _ _ hP hD hS (by rw [if_pos (singleB_iff.2 ⟨hc1, hc9⟩)]) d_L_isSingle_17
set_option maxHeartbeats 4000000 in
set_option maxRecDepth 100000 in
theorem k_L_positivesUpTo (l : Launch) (D : va_G) (x : Int32) : KTi l y_L_positivesUpTo c_L_positivesUpTo 1 .int { frames := 0, cells := 0, slots := 0, locals := 0 } D [] [.int x] [] ((1 <<< (x &&& 31)) - 1) [] := by
  refine KTi_of (own := R_L) (by decide +kernel) rfl (Nat.le_of_ble_eq_true rfl) (vp_nar_int _) ?_
  intro p e s m below meth c A ls Q hx hb hml hts hown hK hP hD hS hA hl fin
  refine lv_iconst (v := 1) hx hb d_L_positivesUpTo_0 (by decide) ?_
  refine lv_iload_n hx hb d_L_positivesUpTo_1 rfl (lv_at hl 0 rfl) ?_
  refine lv_ishl hx hb d_L_positivesUpTo_2 ?_
  refine lv_iconst (v := 1) hx hb d_L_positivesUpTo_3 (by decide) ?_
  refine lv_isub hx hb d_L_positivesUpTo_4 ?_
  exact fin _ _ _ _ _ hP hD hS (rfl) d_L_positivesUpTo_5
set_option maxHeartbeats 4000000 in
set_option maxRecDepth 100000 in
theorem k_D_size (l : Launch) (D : va_G) (cI : ClassId) (h a1 a2 a3 a4 : Nat) (d : DS) (hd : DW d) : KTi l y_D_size c_D_size 1 .int { frames := 0, cells := 0, slots := 0, locals := 0 } D [(cI, .int)] [.ref h] (wD cI h a1 a2 a3 a4 d) (nI (dz d)) (wD cI h a1 a2 a3 a4 d) := by
  refine KTi_of (own := R_D) (by decide +kernel) rfl (Nat.le_of_ble_eq_true rfl) (vp_nar_int _) ?_
  intro p e s m below meth c A ls Q hx hb hml hts hown hK hP hD hS hA hl fin
  obtain ⟨hz, hlk⟩ := hd
  refine lv_aload_n hx hb d_D_size_0 rfl (lv_at hl 0 rfl) ?_
  refine va_get (D := D) (ci := 1) (v := .int (nI (dz d))) (C := R_D) (T := T_D) (N := 7) hx hb hts u_D hown hK hP 0 rfl rfl 4 (by decide) (hts _ f_D_35) (fun _ h9 => h9) rfl d_D_size_1 ?_
  exact fin _ _ _ _ _ hP hD hS (rfl) d_D_size_4
set_option maxHeartbeats 4000000 in
set_option maxRecDepth 100000 in
theorem k_D_has (l : Launch) (D : va_G) (cI : ClassId) (h a1 a2 a3 a4 : Nat) (d : DS) (hd : DW d) (i : Int32) : KTi l y_D_has c_D_has 2 .boolean { frames := 0, cells := 0, slots := 0, locals := 0 } D [(cI, .int)] [.ref h, .int i] (wD cI h a1 a2 a3 a4 d) (if 0 ≤ i ∧ i < nI (dz d) then 1 else 0) (wD cI h a1 a2 a3 a4 d) := by
  refine KTi_of (own := R_D) (by decide +kernel) rfl (Nat.le_of_ble_eq_true rfl) (nar_if _) ?_
  intro p e s m below meth c A ls Q hx hb hml hts hown hK hP hD hS hA hl fin
  obtain ⟨hz, hlk⟩ := hd
  refine lv_iload_n hx hb d_D_has_0 rfl (lv_at hl 1 rfl) ?_
  refine lv_if_lt (tgt := 16) hx hb d_D_has_1 rfl (fun hc1 => ?_) (fun hc1 => ?_)
  · refine lv_iconst (v := 0) hx hb d_D_has_16 (by decide) ?_
    exact fin _ _ _ _ _ hP hD hS ((if_neg (fun h => Int32.not_lt.mpr h.1 hc1)).symm) d_D_has_17
  · refine lv_iload_n hx hb d_D_has_4 rfl (lv_at hl 1 rfl) ?_
    refine lv_aload_n hx hb d_D_has_5 rfl (lv_at hl 0 rfl) ?_
    refine va_get (D := D) (ci := 1) (v := .int (nI (dz d))) (C := R_D) (T := T_D) (N := 7) hx hb hts u_D hown hK hP 0 rfl rfl 4 (by decide) (hts _ f_D_35) (fun _ h9 => h9) rfl d_D_has_6 ?_
    refine lv_icmp_ge (tgt := 16) hx hb d_D_has_9 rfl (fun hc9 => ?_) (fun hc9 => ?_)
    · refine lv_iconst (v := 0) hx hb d_D_has_16 (by decide) ?_
      exact fin _ _ _ _ _ hP hD hS ((if_neg (fun h => Int32.not_lt.mpr hc9 h.2)).symm) d_D_has_17
    · refine lv_iconst (v := 1) hx hb d_D_has_12 (by decide) ?_
      refine lv_goto (tgt := 17) hx hb d_D_has_13 rfl ?_
      exact fin _ _ _ _ _ hP hD hS ((if_pos ⟨Int32.not_lt.mp hc1, Int32.not_le.mp hc9⟩).symm) d_D_has_17
set_option maxHeartbeats 4000000 in
set_option maxRecDepth 100000 in
theorem k_D_clause (l : Launch) (D : va_G) (cI : ClassId) (h a1 a2 a3 a4 : Nat) (d : DS) (hd : DW d) (i : Int32) : KTi l y_D_clause c_D_clause 2 .int { frames := 1, cells := 0, slots := 0, locals := 21 } D [(cI, .int)] [.ref h, .int i] (wD cI h a1 a2 a3 a4 d) (dk_cl d i) (wD cI h a1 a2 a3 a4 d) := by
  refine KTi_of (own := R_D) (by decide +kernel) rfl (Nat.le_of_ble_eq_true rfl) (vp_nar_int _) ?_
  intro p e s m below meth c A ls Q hx hb hml hts hown hK hP hD hS hA hl fin
  obtain ⟨hz, hlk⟩ := hd
  refine lv_aload_n hx hb d_D_clause_0 rfl (lv_at hl 0 rfl) ?_
  refine lv_iload_n hx hb d_D_clause_1 rfl (lv_at hl 1 rfl) ?_
  refine CTi_V (isC := [0, 1, 2, 3, 4]) (isR := []) (wr := []) (wi := [(h, .inr (1, [.ref a1, .ref a2, .ref a3, .ref a4, .int (nI (dz d)), .int (nI (dl d)), .int (nI (dO d))])), (a1, .inl (cI, 1575, .inl (dC d))), (a2, .inl (cI, 1575, .inl (dF d))), (a3, .inl (cI, 1575, .inl (dT d))), (a4, .inl (cI, 3060, .inl (dK d)))]) (wo := [(h, .inr (1, [.ref a1, .ref a2, .ref a3, .ref a4, .int (nI (dz d)), .int (nI (dl d)), .int (nI (dO d))])), (a1, .inl (cI, 1575, .inl (dC d))), (a2, .inl (cI, 1575, .inl (dF d))), (a3, .inl (cI, 1575, .inl (dT d))), (a4, .inl (cI, 3060, .inl (dK d)))]) (b := h) (As := [.int i]) (rest := []) ⟨hx, hb, hml, hown, hts⟩ [0] (k_D_has l D cI h a1 a2 a3 a4 d ⟨hz, hlk⟩ i) (cwV 1 hts v_D_47 rfl rfl rfl (by decide +kernel) ⟨Nat.le_of_ble_eq_true rfl, Nat.le_of_ble_eq_true rfl⟩) ⟨rfl, rfl, rfl, rfl, by decide⟩ rfl hK hP hD hS hA (va_recv (ci := 1) hK hP rfl (q0 := 0) rfl) rfl hl.1 (Nat.le_of_ble_eq_true rfl) d_D_clause_2 ⟨Nat.le_of_ble_eq_true rfl, Nat.le_of_ble_eq_true rfl⟩ (fun H locs hP hD hS => ?_)
  have hP : va_P D cls_ [(h, .inr (1, [.ref a1, .ref a2, .ref a3, .ref a4, .int (nI (dz d)), .int (nI (dl d)), .int (nI (dO d))])), (a1, .inl (cI, 1575, .inl (dC d))), (a2, .inl (cI, 1575, .inl (dF d))), (a3, .inl (cI, 1575, .inl (dT d))), (a4, .inl (cI, 3060, .inl (dK d)))] H := hP
  have hD : va_D A [(h, .inr (1, [.ref a1, .ref a2, .ref a3, .ref a4, .int (nI (dz d)), .int (nI (dl d)), .int (nI (dO d))])), (a1, .inl (cI, 1575, .inl (dC d))), (a2, .inl (cI, 1575, .inl (dF d))), (a3, .inl (cI, 1575, .inl (dT d))), (a4, .inl (cI, 3060, .inl (dK d)))] := hD
  refine lv_if_eq (tgt := 17) hx hb d_D_clause_5 rfl (fun hc5 => ?_) (fun hc5 => ?_)
  · refine lv_iconst (v := 0) hx hb d_D_clause_17 (by decide) ?_
    exact fin _ _ _ _ _ hP hD hS ((if_neg (it0 hc5)).symm) d_D_clause_18
  · refine lv_aload_n hx hb d_D_clause_8 rfl (lv_at hl 0 rfl) ?_
    refine va_get (D := D) (ci := 1) (v := .ref a1) (C := R_D) (T := T_D) (N := 7) hx hb hts u_D hown hK hP 0 rfl rfl 0 (by decide) (hts _ f_D_11) (fun _ h9 => h9) rfl d_D_clause_9 ?_
    refine lv_iload_n hx hb d_D_clause_12 rfl (lv_at hl 1 rfl) ?_
    refine va_iald (D := D) (i := i) hx hb hK hP 1 0 rfl rfl (vin_of (it1 hc5).1 (it1 hc5).2 hz (by decide)) d_D_clause_13 ?_
    refine lv_goto (tgt := 18) hx hb d_D_clause_14 rfl ?_
    exact fin _ _ _ _ _ hP hD hS ((if_pos (it1 hc5)).symm) d_D_clause_18
set_option maxHeartbeats 4000000 in
set_option maxRecDepth 100000 in
theorem k_D_linksFrom (l : Launch) (D : va_G) (cI : ClassId) (h a1 a2 a3 a4 : Nat) (d : DS) (hd : DW d) (i : Int32) : KTi l y_D_linksFrom c_D_linksFrom 2 .int { frames := 1, cells := 0, slots := 0, locals := 21 } D [(cI, .int)] [.ref h, .int i] (wD cI h a1 a2 a3 a4 d) (dk_from d i) (wD cI h a1 a2 a3 a4 d) := by
  refine KTi_of (own := R_D) (by decide +kernel) rfl (Nat.le_of_ble_eq_true rfl) (vp_nar_int _) ?_
  intro p e s m below meth c A ls Q hx hb hml hts hown hK hP hD hS hA hl fin
  obtain ⟨hz, hlk⟩ := hd
  refine lv_aload_n hx hb d_D_linksFrom_0 rfl (lv_at hl 0 rfl) ?_
  refine lv_iload_n hx hb d_D_linksFrom_1 rfl (lv_at hl 1 rfl) ?_
  refine CTi_V (isC := [0, 1, 2, 3, 4]) (isR := []) (wr := []) (wi := [(h, .inr (1, [.ref a1, .ref a2, .ref a3, .ref a4, .int (nI (dz d)), .int (nI (dl d)), .int (nI (dO d))])), (a1, .inl (cI, 1575, .inl (dC d))), (a2, .inl (cI, 1575, .inl (dF d))), (a3, .inl (cI, 1575, .inl (dT d))), (a4, .inl (cI, 3060, .inl (dK d)))]) (wo := [(h, .inr (1, [.ref a1, .ref a2, .ref a3, .ref a4, .int (nI (dz d)), .int (nI (dl d)), .int (nI (dO d))])), (a1, .inl (cI, 1575, .inl (dC d))), (a2, .inl (cI, 1575, .inl (dF d))), (a3, .inl (cI, 1575, .inl (dT d))), (a4, .inl (cI, 3060, .inl (dK d)))]) (b := h) (As := [.int i]) (rest := []) ⟨hx, hb, hml, hown, hts⟩ [0] (k_D_has l D cI h a1 a2 a3 a4 d ⟨hz, hlk⟩ i) (cwV 1 hts v_D_47 rfl rfl rfl (by decide +kernel) ⟨Nat.le_of_ble_eq_true rfl, Nat.le_of_ble_eq_true rfl⟩) ⟨rfl, rfl, rfl, rfl, by decide⟩ rfl hK hP hD hS hA (va_recv (ci := 1) hK hP rfl (q0 := 0) rfl) rfl hl.1 (Nat.le_of_ble_eq_true rfl) d_D_linksFrom_2 ⟨Nat.le_of_ble_eq_true rfl, Nat.le_of_ble_eq_true rfl⟩ (fun H locs hP hD hS => ?_)
  have hP : va_P D cls_ [(h, .inr (1, [.ref a1, .ref a2, .ref a3, .ref a4, .int (nI (dz d)), .int (nI (dl d)), .int (nI (dO d))])), (a1, .inl (cI, 1575, .inl (dC d))), (a2, .inl (cI, 1575, .inl (dF d))), (a3, .inl (cI, 1575, .inl (dT d))), (a4, .inl (cI, 3060, .inl (dK d)))] H := hP
  have hD : va_D A [(h, .inr (1, [.ref a1, .ref a2, .ref a3, .ref a4, .int (nI (dz d)), .int (nI (dl d)), .int (nI (dO d))])), (a1, .inl (cI, 1575, .inl (dC d))), (a2, .inl (cI, 1575, .inl (dF d))), (a3, .inl (cI, 1575, .inl (dT d))), (a4, .inl (cI, 3060, .inl (dK d)))] := hD
  refine lv_if_eq (tgt := 17) hx hb d_D_linksFrom_5 rfl (fun hc5 => ?_) (fun hc5 => ?_)
  · refine lv_iconst (v := (-1)) hx hb d_D_linksFrom_17 (by decide) ?_
    exact fin _ _ _ _ _ hP hD hS ((if_neg (it0 hc5)).symm) d_D_linksFrom_18
  · refine lv_aload_n hx hb d_D_linksFrom_8 rfl (lv_at hl 0 rfl) ?_
    refine va_get (D := D) (ci := 1) (v := .ref a2) (C := R_D) (T := T_D) (N := 7) hx hb hts u_D hown hK hP 0 rfl rfl 1 (by decide) (hts _ f_D_15) (fun _ h9 => h9) rfl d_D_linksFrom_9 ?_
    refine lv_iload_n hx hb d_D_linksFrom_12 rfl (lv_at hl 1 rfl) ?_
    refine va_iald (D := D) (i := i) hx hb hK hP 2 0 rfl rfl (vin_of (it1 hc5).1 (it1 hc5).2 hz (by decide)) d_D_linksFrom_13 ?_
    refine lv_goto (tgt := 18) hx hb d_D_linksFrom_14 rfl ?_
    exact fin _ _ _ _ _ hP hD hS ((if_pos (it1 hc5)).symm) d_D_linksFrom_18
set_option maxHeartbeats 4000000 in
set_option maxRecDepth 100000 in
theorem k_D_linksTo (l : Launch) (D : va_G) (cI : ClassId) (h a1 a2 a3 a4 : Nat) (d : DS) (hd : DW d) (i : Int32) : KTi l y_D_linksTo c_D_linksTo 2 .int { frames := 1, cells := 0, slots := 0, locals := 21 } D [(cI, .int)] [.ref h, .int i] (wD cI h a1 a2 a3 a4 d) (dk_to d i) (wD cI h a1 a2 a3 a4 d) := by
  refine KTi_of (own := R_D) (by decide +kernel) rfl (Nat.le_of_ble_eq_true rfl) (vp_nar_int _) ?_
  intro p e s m below meth c A ls Q hx hb hml hts hown hK hP hD hS hA hl fin
  obtain ⟨hz, hlk⟩ := hd
  refine lv_aload_n hx hb d_D_linksTo_0 rfl (lv_at hl 0 rfl) ?_
  refine lv_iload_n hx hb d_D_linksTo_1 rfl (lv_at hl 1 rfl) ?_
  refine CTi_V (isC := [0, 1, 2, 3, 4]) (isR := []) (wr := []) (wi := [(h, .inr (1, [.ref a1, .ref a2, .ref a3, .ref a4, .int (nI (dz d)), .int (nI (dl d)), .int (nI (dO d))])), (a1, .inl (cI, 1575, .inl (dC d))), (a2, .inl (cI, 1575, .inl (dF d))), (a3, .inl (cI, 1575, .inl (dT d))), (a4, .inl (cI, 3060, .inl (dK d)))]) (wo := [(h, .inr (1, [.ref a1, .ref a2, .ref a3, .ref a4, .int (nI (dz d)), .int (nI (dl d)), .int (nI (dO d))])), (a1, .inl (cI, 1575, .inl (dC d))), (a2, .inl (cI, 1575, .inl (dF d))), (a3, .inl (cI, 1575, .inl (dT d))), (a4, .inl (cI, 3060, .inl (dK d)))]) (b := h) (As := [.int i]) (rest := []) ⟨hx, hb, hml, hown, hts⟩ [0] (k_D_has l D cI h a1 a2 a3 a4 d ⟨hz, hlk⟩ i) (cwV 1 hts v_D_47 rfl rfl rfl (by decide +kernel) ⟨Nat.le_of_ble_eq_true rfl, Nat.le_of_ble_eq_true rfl⟩) ⟨rfl, rfl, rfl, rfl, by decide⟩ rfl hK hP hD hS hA (va_recv (ci := 1) hK hP rfl (q0 := 0) rfl) rfl hl.1 (Nat.le_of_ble_eq_true rfl) d_D_linksTo_2 ⟨Nat.le_of_ble_eq_true rfl, Nat.le_of_ble_eq_true rfl⟩ (fun H locs hP hD hS => ?_)
  have hP : va_P D cls_ [(h, .inr (1, [.ref a1, .ref a2, .ref a3, .ref a4, .int (nI (dz d)), .int (nI (dl d)), .int (nI (dO d))])), (a1, .inl (cI, 1575, .inl (dC d))), (a2, .inl (cI, 1575, .inl (dF d))), (a3, .inl (cI, 1575, .inl (dT d))), (a4, .inl (cI, 3060, .inl (dK d)))] H := hP
  have hD : va_D A [(h, .inr (1, [.ref a1, .ref a2, .ref a3, .ref a4, .int (nI (dz d)), .int (nI (dl d)), .int (nI (dO d))])), (a1, .inl (cI, 1575, .inl (dC d))), (a2, .inl (cI, 1575, .inl (dF d))), (a3, .inl (cI, 1575, .inl (dT d))), (a4, .inl (cI, 3060, .inl (dK d)))] := hD
  refine lv_if_eq (tgt := 17) hx hb d_D_linksTo_5 rfl (fun hc5 => ?_) (fun hc5 => ?_)
  · refine lv_iconst (v := (-1)) hx hb d_D_linksTo_17 (by decide) ?_
    exact fin _ _ _ _ _ hP hD hS ((if_neg (it0 hc5)).symm) d_D_linksTo_18
  · refine lv_aload_n hx hb d_D_linksTo_8 rfl (lv_at hl 0 rfl) ?_
    refine va_get (D := D) (ci := 1) (v := .ref a3) (C := R_D) (T := T_D) (N := 7) hx hb hts u_D hown hK hP 0 rfl rfl 2 (by decide) (hts _ f_D_18) (fun _ h9 => h9) rfl d_D_linksTo_9 ?_
    refine lv_iload_n hx hb d_D_linksTo_12 rfl (lv_at hl 1 rfl) ?_
    refine va_iald (D := D) (i := i) hx hb hK hP 3 0 rfl rfl (vin_of (it1 hc5).1 (it1 hc5).2 hz (by decide)) d_D_linksTo_13 ?_
    refine lv_goto (tgt := 18) hx hb d_D_linksTo_14 rfl ?_
    exact fin _ _ _ _ _ hP hD hS ((if_pos (it1 hc5)).symm) d_D_linksTo_18
set_option maxHeartbeats 4000000 in
set_option maxRecDepth 100000 in
theorem k_D_linkAt (l : Launch) (D : va_G) (cI : ClassId) (h a1 a2 a3 a4 : Nat) (d : DS) (hd : DW d) (i : Int32) : KTi l y_D_linkAt c_D_linkAt 2 .int { frames := 0, cells := 0, slots := 0, locals := 0 } D [(cI, .int)] [.ref h, .int i] (wD cI h a1 a2 a3 a4 d) (dk_linkAt d i) (wD cI h a1 a2 a3 a4 d) := by
  refine KTi_of (own := R_D) (by decide +kernel) rfl (Nat.le_of_ble_eq_true rfl) (vp_nar_int _) ?_
  intro p e s m below meth c A ls Q hx hb hml hts hown hK hP hD hS hA hl fin
  obtain ⟨hz, hlk⟩ := hd
  refine lv_iload_n hx hb d_D_linkAt_0 rfl (lv_at hl 1 rfl) ?_
  refine lv_if_lt (tgt := 21) hx hb d_D_linkAt_1 rfl (fun hc1 => ?_) (fun hc1 => ?_)
  · refine lv_iconst (v := (-1)) hx hb d_D_linkAt_21 (by decide) ?_
    exact fin _ _ _ _ _ hP hD hS ((if_neg (fun h => Int32.not_lt.mpr h.1 hc1)).symm) d_D_linkAt_22
  · refine lv_iload_n hx hb d_D_linkAt_4 rfl (lv_at hl 1 rfl) ?_
    refine lv_aload_n hx hb d_D_linkAt_5 rfl (lv_at hl 0 rfl) ?_
    refine va_get (D := D) (ci := 1) (v := .int (nI (dl d))) (C := R_D) (T := T_D) (N := 7) hx hb hts u_D hown hK hP 0 rfl rfl 5 (by decide) (hts _ f_D_28) (fun _ h9 => h9) rfl d_D_linkAt_6 ?_
    refine lv_icmp_ge (tgt := 21) hx hb d_D_linkAt_9 rfl (fun hc9 => ?_) (fun hc9 => ?_)
    · refine lv_iconst (v := (-1)) hx hb d_D_linkAt_21 (by decide) ?_
      exact fin _ _ _ _ _ hP hD hS ((if_neg (fun h => Int32.not_lt.mpr hc9 h.2)).symm) d_D_linkAt_22
    · refine lv_aload_n hx hb d_D_linkAt_12 rfl (lv_at hl 0 rfl) ?_
      refine va_get (D := D) (ci := 1) (v := .ref a4) (C := R_D) (T := T_D) (N := 7) hx hb hts u_D hown hK hP 0 rfl rfl 3 (by decide) (hts _ f_D_21) (fun _ h9 => h9) rfl d_D_linkAt_13 ?_
      refine lv_iload_n hx hb d_D_linkAt_16 rfl (lv_at hl 1 rfl) ?_
      refine va_iald (D := D) (i := i) hx hb hK hP 4 0 rfl rfl (vin_of (Int32.not_lt.mp hc1) (Int32.not_le.mp hc9) hlk (by decide)) d_D_linkAt_17 ?_
      refine lv_goto (tgt := 22) hx hb d_D_linkAt_18 rfl ?_
      exact fin _ _ _ _ _ hP hD hS ((if_pos ⟨Int32.not_lt.mp hc1, Int32.not_le.mp hc9⟩).symm) d_D_linkAt_22
set_option maxHeartbeats 4000000 in
set_option maxRecDepth 100000 in
theorem k_D_isDerived (l : Launch) (D : va_G) (cI : ClassId) (h a1 a2 a3 a4 : Nat) (d : DS) (hd : DW d) (i : Int32) : KTi l y_D_isDerived c_D_isDerived 2 .boolean { frames := 2, cells := 0, slots := 0, locals := 42 } D [(cI, .int)] [.ref h, .int i] (wD cI h a1 a2 a3 a4 d) (if dk_from d i = -1 then 0 else 1) (wD cI h a1 a2 a3 a4 d) := by
  refine KTi_of (own := R_D) (by decide +kernel) rfl (Nat.le_of_ble_eq_true rfl) (nar_if2 _) ?_
  intro p e s m below meth c A ls Q hx hb hml hts hown hK hP hD hS hA hl fin
  obtain ⟨hz, hlk⟩ := hd
  refine lv_aload_n hx hb d_D_isDerived_0 rfl (lv_at hl 0 rfl) ?_
  refine lv_iload_n hx hb d_D_isDerived_1 rfl (lv_at hl 1 rfl) ?_
  refine CTi_V (isC := [0, 1, 2, 3, 4]) (isR := []) (wr := []) (wi := [(h, .inr (1, [.ref a1, .ref a2, .ref a3, .ref a4, .int (nI (dz d)), .int (nI (dl d)), .int (nI (dO d))])), (a1, .inl (cI, 1575, .inl (dC d))), (a2, .inl (cI, 1575, .inl (dF d))), (a3, .inl (cI, 1575, .inl (dT d))), (a4, .inl (cI, 3060, .inl (dK d)))]) (wo := [(h, .inr (1, [.ref a1, .ref a2, .ref a3, .ref a4, .int (nI (dz d)), .int (nI (dl d)), .int (nI (dO d))])), (a1, .inl (cI, 1575, .inl (dC d))), (a2, .inl (cI, 1575, .inl (dF d))), (a3, .inl (cI, 1575, .inl (dT d))), (a4, .inl (cI, 3060, .inl (dK d)))]) (b := h) (As := [.int i]) (rest := []) ⟨hx, hb, hml, hown, hts⟩ [0] (k_D_linksFrom l D cI h a1 a2 a3 a4 d ⟨hz, hlk⟩ i) (cwV 1 hts v_D_51 rfl rfl rfl (by decide +kernel) ⟨Nat.le_of_ble_eq_true rfl, Nat.le_of_ble_eq_true rfl⟩) ⟨rfl, rfl, rfl, rfl, by decide⟩ rfl hK hP hD hS hA (va_recv (ci := 1) hK hP rfl (q0 := 0) rfl) rfl hl.1 (Nat.le_of_ble_eq_true rfl) d_D_isDerived_2 ⟨Nat.le_of_ble_eq_true rfl, Nat.le_of_ble_eq_true rfl⟩ (fun H locs hP hD hS => ?_)
  have hP : va_P D cls_ [(h, .inr (1, [.ref a1, .ref a2, .ref a3, .ref a4, .int (nI (dz d)), .int (nI (dl d)), .int (nI (dO d))])), (a1, .inl (cI, 1575, .inl (dC d))), (a2, .inl (cI, 1575, .inl (dF d))), (a3, .inl (cI, 1575, .inl (dT d))), (a4, .inl (cI, 3060, .inl (dK d)))] H := hP
  have hD : va_D A [(h, .inr (1, [.ref a1, .ref a2, .ref a3, .ref a4, .int (nI (dz d)), .int (nI (dl d)), .int (nI (dO d))])), (a1, .inl (cI, 1575, .inl (dC d))), (a2, .inl (cI, 1575, .inl (dF d))), (a3, .inl (cI, 1575, .inl (dT d))), (a4, .inl (cI, 3060, .inl (dK d)))] := hD
  refine lv_iconst (v := (-1)) hx hb d_D_isDerived_5 (by decide) ?_
  refine lv_icmp_eq (tgt := 13) hx hb d_D_isDerived_6 rfl (fun hc6 => ?_) (fun hc6 => ?_)
  · refine lv_iconst (v := 0) hx hb d_D_isDerived_13 (by decide) ?_
    exact fin _ _ _ _ _ hP hD hS ((if_pos hc6).symm) d_D_isDerived_14
  · refine lv_iconst (v := 1) hx hb d_D_isDerived_9 (by decide) ?_
    refine lv_goto (tgt := 14) hx hb d_D_isDerived_10 rfl ?_
    exact fin _ _ _ _ _ hP hD hS ((if_neg hc6).symm) d_D_isDerived_14
set_option maxHeartbeats 4000000 in
set_option maxRecDepth 100000 in
theorem k_D_link (l : Launch) (D : va_G) (cI : ClassId) (h a1 a2 a3 a4 : Nat) (d : DS) (hd : DW d) (x : Int32) : KTv l y_D_link c_D_link 2 { frames := 0, cells := 0, slots := 0, locals := 0 } D [(cI, .int)] [.ref h, .int x] (wD cI h a1 a2 a3 a4 d) (wD cI h a1 a2 a3 a4 (dk_link d x)) := by
  refine KTv_of (own := R_D) (by decide +kernel) rfl (Nat.le_of_ble_eq_true rfl) ?_
  intro p e s m below meth c A ls Q hx hb hml hts hown hK hP hD hS hA hl fin
  obtain ⟨hz, hlk⟩ := hd
  refine lv_aload_n hx hb d_D_link_0 rfl (lv_at hl 0 rfl) ?_
  refine va_get (D := D) (ci := 1) (v := .int (nI (dl d))) (C := R_D) (T := T_D) (N := 7) hx hb hts u_D hown hK hP 0 rfl rfl 5 (by decide) (hts _ f_D_28) (fun _ h9 => h9) rfl d_D_link_1 ?_
  refine lv_aload_n hx hb d_D_link_4 rfl (lv_at hl 0 rfl) ?_
  refine va_get (D := D) (ci := 1) (v := .ref a4) (C := R_D) (T := T_D) (N := 7) hx hb hts u_D hown hK hP 0 rfl rfl 3 (by decide) (hts _ f_D_21) (fun _ h9 => h9) rfl d_D_link_5 ?_
  refine va_alen (v := 3060) hx hb hK hP 4 0 rfl rfl rfl d_D_link_8 ?_
  refine lv_icmp_ge (tgt := 32) hx hb d_D_link_9 rfl (fun hc9 => ?_) (fun hc9 => ?_)
  · have e9 : dk_link d x = d := if_neg (fun h => hc9ge (d := d) hc9 h)
    rw [e9] at fin
    exact fin _ _ _ _ hP hD hS d_D_link_32
  · have hlt : dl d < 3060 := (nI_ltI (by omega) (by decide)).1 (Int32.not_le.mp hc9)
    refine lv_aload_n hx hb d_D_link_12 rfl (lv_at hl 0 rfl) ?_
    refine va_get (D := D) (ci := 1) (v := .ref a4) (C := R_D) (T := T_D) (N := 7) hx hb hts u_D hown hK hP 0 rfl rfl 3 (by decide) (hts _ f_D_21) (fun _ h9 => h9) rfl d_D_link_13 ?_
    refine lv_aload_n hx hb d_D_link_16 rfl (lv_at hl 0 rfl) ?_
    refine va_get (D := D) (ci := 1) (v := .int (nI (dl d))) (C := R_D) (T := T_D) (N := 7) hx hb hts u_D hown hK hP 0 rfl rfl 5 (by decide) (hts _ f_D_28) (fun _ h9 => h9) rfl d_D_link_17 ?_
    refine lv_iload_n hx hb d_D_link_20 rfl (lv_at hl 1 rfl) ?_
    refine va_iast (D := D) (i := (nI (dl d))) (x := x) hx hb hK hP hD hS 4 0 rfl rfl (vp_in_nI hlt (by decide)) d_D_link_21 (fun H locs hP hD hS => ?_)
    rw [show ((nI (dl d)) : Int32).toNatClampNeg = (dl d) from nI_clamp (by omega)] at hP hD
    have hP : va_P D cls_ [(h, .inr (1, [.ref a1, .ref a2, .ref a3, .ref a4, .int (nI (dz d)), .int (nI (dl d)), .int (nI (dO d))])), (a1, .inl (cI, 1575, .inl (dC d))), (a2, .inl (cI, 1575, .inl (dF d))), (a3, .inl (cI, 1575, .inl (dT d))), (a4, .inl (cI, 3060, .inl (upd (dK d) ((dl d)) (x))))] H := hP
    have hD : va_D A [(h, .inr (1, [.ref a1, .ref a2, .ref a3, .ref a4, .int (nI (dz d)), .int (nI (dl d)), .int (nI (dO d))])), (a1, .inl (cI, 1575, .inl (dC d))), (a2, .inl (cI, 1575, .inl (dF d))), (a3, .inl (cI, 1575, .inl (dT d))), (a4, .inl (cI, 3060, .inl (upd (dK d) ((dl d)) (x))))] := hD
    refine lv_aload_n hx hb d_D_link_22 rfl (lv_at hl 0 rfl) ?_
    refine lv_dup hx hb d_D_link_23 rfl ?_
    refine va_get (D := D) (ci := 1) (v := .int (nI (dl d))) (C := R_D) (T := T_D) (N := 7) hx hb hts u_D hown hK hP 0 rfl rfl 5 (by decide) (hts _ f_D_28) (fun _ h9 => h9) rfl d_D_link_24 ?_
    refine lv_iconst (v := 1) hx hb d_D_link_27 (by decide) ?_
    refine lv_iadd hx hb d_D_link_28 ?_
    refine va_put (D := D) (ci := 1) (v := .int ((nI (dl d)) + 1)) (ty := .int) (C := R_D) (T := T_D) (N := 7) hx hb hts u_D t_D t_D_ok n_D hown hK hP hD hS 0 rfl rfl 5 (by decide) (hts _ f_D_28) (fun _ h9 => h9) rfl (by decide +kernel) rfl rfl (Nat.le_of_ble_eq_true rfl) d_D_link_29 (fun H locs hP hD hS => ?_)
    have hP : va_P D cls_ [(h, .inr (1, [.ref a1, .ref a2, .ref a3, .ref a4, .int (nI (dz d)), .int ((nI (dl d)) + 1), .int (nI (dO d))])), (a1, .inl (cI, 1575, .inl (dC d))), (a2, .inl (cI, 1575, .inl (dF d))), (a3, .inl (cI, 1575, .inl (dT d))), (a4, .inl (cI, 3060, .inl (upd (dK d) ((dl d)) (x))))] H := hP
    have hD : va_D A [(h, .inr (1, [.ref a1, .ref a2, .ref a3, .ref a4, .int (nI (dz d)), .int ((nI (dl d)) + 1), .int (nI (dO d))])), (a1, .inl (cI, 1575, .inl (dC d))), (a2, .inl (cI, 1575, .inl (dF d))), (a3, .inl (cI, 1575, .inl (dT d))), (a4, .inl (cI, 3060, .inl (upd (dK d) ((dl d)) (x))))] := hD
    have e9 : dk_link d x = (dC d, dF d, dT d, upd (dK d) (dl d) x, dz d, dl d + 1, dO d) := if_pos hlt
    rw [e9] at fin
    rw [nI_1] at hP hD
    exact fin _ _ _ _ hP hD hS d_D_link_32
set_option maxHeartbeats 4000000 in
set_option maxRecDepth 100000 in
theorem k_D_append (l : Launch) (D : va_G) (cI : ClassId) (h a1 a2 a3 a4 : Nat) (d : DS) (hd : DW d) (x : Int32) (f : Int32) (t : Int32) : KTv l y_D_append c_D_append 4 { frames := 0, cells := 0, slots := 0, locals := 0 } D [(cI, .int)] [.ref h, .int x, .int f, .int t] (wD cI h a1 a2 a3 a4 d) (wD cI h a1 a2 a3 a4 (dk_append d x f t)) := by
  refine KTv_of (own := R_D) (by decide +kernel) rfl (Nat.le_of_ble_eq_true rfl) ?_
  intro p e s m below meth c A ls Q hx hb hml hts hown hK hP hD hS hA hl fin
  obtain ⟨hz, hlk⟩ := hd
  refine lv_aload_n hx hb d_D_append_0 rfl (lv_at hl 0 rfl) ?_
  refine va_get (D := D) (ci := 1) (v := .int (nI (dz d))) (C := R_D) (T := T_D) (N := 7) hx hb hts u_D hown hK hP 0 rfl rfl 4 (by decide) (hts _ f_D_35) (fun _ h9 => h9) rfl d_D_append_1 ?_
  refine lv_aload_n hx hb d_D_append_4 rfl (lv_at hl 0 rfl) ?_
  refine va_get (D := D) (ci := 1) (v := .ref a1) (C := R_D) (T := T_D) (N := 7) hx hb hts u_D hown hK hP 0 rfl rfl 0 (by decide) (hts _ f_D_11) (fun _ h9 => h9) rfl d_D_append_5 ?_
  refine va_alen (v := 1575) hx hb hK hP 1 0 rfl rfl rfl d_D_append_8 ?_
  refine lv_icmp_ge (tgt := 52) hx hb d_D_append_9 rfl (fun hc9 => ?_) (fun hc9 => ?_)
  · have e9 : dk_append d x f t = d := if_neg (fun h => hc9gz (d := d) hc9 h)
    rw [e9] at fin
    exact fin _ _ _ _ hP hD hS d_D_append_52
  · have hlt : dz d < 1575 := (nI_ltI (by omega) (by decide)).1 (Int32.not_le.mp hc9)
    refine lv_aload_n hx hb d_D_append_12 rfl (lv_at hl 0 rfl) ?_
    refine va_get (D := D) (ci := 1) (v := .ref a1) (C := R_D) (T := T_D) (N := 7) hx hb hts u_D hown hK hP 0 rfl rfl 0 (by decide) (hts _ f_D_11) (fun _ h9 => h9) rfl d_D_append_13 ?_
    refine lv_aload_n hx hb d_D_append_16 rfl (lv_at hl 0 rfl) ?_
    refine va_get (D := D) (ci := 1) (v := .int (nI (dz d))) (C := R_D) (T := T_D) (N := 7) hx hb hts u_D hown hK hP 0 rfl rfl 4 (by decide) (hts _ f_D_35) (fun _ h9 => h9) rfl d_D_append_17 ?_
    refine lv_iload_n hx hb d_D_append_20 rfl (lv_at hl 1 rfl) ?_
    refine va_iast (D := D) (i := (nI (dz d))) (x := x) hx hb hK hP hD hS 1 0 rfl rfl (vp_in_nI hlt (by decide)) d_D_append_21 (fun H locs hP hD hS => ?_)
    rw [show ((nI (dz d)) : Int32).toNatClampNeg = (dz d) from nI_clamp (by omega)] at hP hD
    have hP : va_P D cls_ [(h, .inr (1, [.ref a1, .ref a2, .ref a3, .ref a4, .int (nI (dz d)), .int (nI (dl d)), .int (nI (dO d))])), (a1, .inl (cI, 1575, .inl (upd (dC d) ((dz d)) (x)))), (a2, .inl (cI, 1575, .inl (dF d))), (a3, .inl (cI, 1575, .inl (dT d))), (a4, .inl (cI, 3060, .inl (dK d)))] H := hP
    have hD : va_D A [(h, .inr (1, [.ref a1, .ref a2, .ref a3, .ref a4, .int (nI (dz d)), .int (nI (dl d)), .int (nI (dO d))])), (a1, .inl (cI, 1575, .inl (upd (dC d) ((dz d)) (x)))), (a2, .inl (cI, 1575, .inl (dF d))), (a3, .inl (cI, 1575, .inl (dT d))), (a4, .inl (cI, 3060, .inl (dK d)))] := hD
    refine lv_aload_n hx hb d_D_append_22 rfl (lv_at hl 0 rfl) ?_
    refine va_get (D := D) (ci := 1) (v := .ref a2) (C := R_D) (T := T_D) (N := 7) hx hb hts u_D hown hK hP 0 rfl rfl 1 (by decide) (hts _ f_D_15) (fun _ h9 => h9) rfl d_D_append_23 ?_
    refine lv_aload_n hx hb d_D_append_26 rfl (lv_at hl 0 rfl) ?_
    refine va_get (D := D) (ci := 1) (v := .int (nI (dz d))) (C := R_D) (T := T_D) (N := 7) hx hb hts u_D hown hK hP 0 rfl rfl 4 (by decide) (hts _ f_D_35) (fun _ h9 => h9) rfl d_D_append_27 ?_
    refine lv_iload_n hx hb d_D_append_30 rfl (lv_at hl 2 rfl) ?_
    refine va_iast (D := D) (i := (nI (dz d))) (x := f) hx hb hK hP hD hS 2 0 rfl rfl (vp_in_nI hlt (by decide)) d_D_append_31 (fun H locs hP hD hS => ?_)
    rw [show ((nI (dz d)) : Int32).toNatClampNeg = (dz d) from nI_clamp (by omega)] at hP hD
    have hP : va_P D cls_ [(h, .inr (1, [.ref a1, .ref a2, .ref a3, .ref a4, .int (nI (dz d)), .int (nI (dl d)), .int (nI (dO d))])), (a1, .inl (cI, 1575, .inl (upd (dC d) ((dz d)) (x)))), (a2, .inl (cI, 1575, .inl (upd (dF d) ((dz d)) (f)))), (a3, .inl (cI, 1575, .inl (dT d))), (a4, .inl (cI, 3060, .inl (dK d)))] H := hP
    have hD : va_D A [(h, .inr (1, [.ref a1, .ref a2, .ref a3, .ref a4, .int (nI (dz d)), .int (nI (dl d)), .int (nI (dO d))])), (a1, .inl (cI, 1575, .inl (upd (dC d) ((dz d)) (x)))), (a2, .inl (cI, 1575, .inl (upd (dF d) ((dz d)) (f)))), (a3, .inl (cI, 1575, .inl (dT d))), (a4, .inl (cI, 3060, .inl (dK d)))] := hD
    refine lv_aload_n hx hb d_D_append_32 rfl (lv_at hl 0 rfl) ?_
    refine va_get (D := D) (ci := 1) (v := .ref a3) (C := R_D) (T := T_D) (N := 7) hx hb hts u_D hown hK hP 0 rfl rfl 2 (by decide) (hts _ f_D_18) (fun _ h9 => h9) rfl d_D_append_33 ?_
    refine lv_aload_n hx hb d_D_append_36 rfl (lv_at hl 0 rfl) ?_
    refine va_get (D := D) (ci := 1) (v := .int (nI (dz d))) (C := R_D) (T := T_D) (N := 7) hx hb hts u_D hown hK hP 0 rfl rfl 4 (by decide) (hts _ f_D_35) (fun _ h9 => h9) rfl d_D_append_37 ?_
    refine lv_iload_n hx hb d_D_append_40 rfl (lv_at hl 3 rfl) ?_
    refine va_iast (D := D) (i := (nI (dz d))) (x := t) hx hb hK hP hD hS 3 0 rfl rfl (vp_in_nI hlt (by decide)) d_D_append_41 (fun H locs hP hD hS => ?_)
    rw [show ((nI (dz d)) : Int32).toNatClampNeg = (dz d) from nI_clamp (by omega)] at hP hD
    have hP : va_P D cls_ [(h, .inr (1, [.ref a1, .ref a2, .ref a3, .ref a4, .int (nI (dz d)), .int (nI (dl d)), .int (nI (dO d))])), (a1, .inl (cI, 1575, .inl (upd (dC d) ((dz d)) (x)))), (a2, .inl (cI, 1575, .inl (upd (dF d) ((dz d)) (f)))), (a3, .inl (cI, 1575, .inl (upd (dT d) ((dz d)) (t)))), (a4, .inl (cI, 3060, .inl (dK d)))] H := hP
    have hD : va_D A [(h, .inr (1, [.ref a1, .ref a2, .ref a3, .ref a4, .int (nI (dz d)), .int (nI (dl d)), .int (nI (dO d))])), (a1, .inl (cI, 1575, .inl (upd (dC d) ((dz d)) (x)))), (a2, .inl (cI, 1575, .inl (upd (dF d) ((dz d)) (f)))), (a3, .inl (cI, 1575, .inl (upd (dT d) ((dz d)) (t)))), (a4, .inl (cI, 3060, .inl (dK d)))] := hD
    refine lv_aload_n hx hb d_D_append_42 rfl (lv_at hl 0 rfl) ?_
    refine lv_dup hx hb d_D_append_43 rfl ?_
    refine va_get (D := D) (ci := 1) (v := .int (nI (dz d))) (C := R_D) (T := T_D) (N := 7) hx hb hts u_D hown hK hP 0 rfl rfl 4 (by decide) (hts _ f_D_35) (fun _ h9 => h9) rfl d_D_append_44 ?_
    refine lv_iconst (v := 1) hx hb d_D_append_47 (by decide) ?_
    refine lv_iadd hx hb d_D_append_48 ?_
    refine va_put (D := D) (ci := 1) (v := .int ((nI (dz d)) + 1)) (ty := .int) (C := R_D) (T := T_D) (N := 7) hx hb hts u_D t_D t_D_ok n_D hown hK hP hD hS 0 rfl rfl 4 (by decide) (hts _ f_D_35) (fun _ h9 => h9) rfl (by decide +kernel) rfl rfl (Nat.le_of_ble_eq_true rfl) d_D_append_49 (fun H locs hP hD hS => ?_)
    have hP : va_P D cls_ [(h, .inr (1, [.ref a1, .ref a2, .ref a3, .ref a4, .int ((nI (dz d)) + 1), .int (nI (dl d)), .int (nI (dO d))])), (a1, .inl (cI, 1575, .inl (upd (dC d) ((dz d)) (x)))), (a2, .inl (cI, 1575, .inl (upd (dF d) ((dz d)) (f)))), (a3, .inl (cI, 1575, .inl (upd (dT d) ((dz d)) (t)))), (a4, .inl (cI, 3060, .inl (dK d)))] H := hP
    have hD : va_D A [(h, .inr (1, [.ref a1, .ref a2, .ref a3, .ref a4, .int ((nI (dz d)) + 1), .int (nI (dl d)), .int (nI (dO d))])), (a1, .inl (cI, 1575, .inl (upd (dC d) ((dz d)) (x)))), (a2, .inl (cI, 1575, .inl (upd (dF d) ((dz d)) (f)))), (a3, .inl (cI, 1575, .inl (upd (dT d) ((dz d)) (t)))), (a4, .inl (cI, 3060, .inl (dK d)))] := hD
    have e9 : dk_append d x f t = (upd (dC d) (dz d) x, upd (dF d) (dz d) f, upd (dT d) (dz d) t, dK d, dz d + 1, dl d, dO d) := if_pos hlt
    rw [e9] at fin
    rw [nI_1] at hP hD
    exact fin _ _ _ _ hP hD hS d_D_append_52
set_option maxHeartbeats 4000000 in
set_option maxRecDepth 100000 in
theorem k_D_give (l : Launch) (D : va_G) (cI : ClassId) (h a1 a2 a3 a4 : Nat) (d : DS) (hd : DW d) (x : Int32) : KTv l y_D_give c_D_give 2 { frames := 1, cells := 0, slots := 0, locals := 23 } D [(cI, .int)] [.ref h, .int x] (wD cI h a1 a2 a3 a4 d) (wD cI h a1 a2 a3 a4 (dk_give d x)) := by
  refine KTv_of (own := R_D) (by decide +kernel) rfl (Nat.le_of_ble_eq_true rfl) ?_
  intro p e s m below meth c A ls Q hx hb hml hts hown hK hP hD hS hA hl fin
  obtain ⟨hz, hlk⟩ := hd
  refine lv_aload_n hx hb d_D_give_0 rfl (lv_at hl 0 rfl) ?_
  refine lv_iload_n hx hb d_D_give_1 rfl (lv_at hl 1 rfl) ?_
  refine lv_iconst (v := (-1)) hx hb d_D_give_2 (by decide) ?_
  refine lv_iconst (v := (-1)) hx hb d_D_give_3 (by decide) ?_
  refine CTv_V (isC := [0, 1, 2, 3, 4]) (isR := []) (wr := []) (wi := [(h, .inr (1, [.ref a1, .ref a2, .ref a3, .ref a4, .int (nI (dz d)), .int (nI (dl d)), .int (nI (dO d))])), (a1, .inl (cI, 1575, .inl (dC d))), (a2, .inl (cI, 1575, .inl (dF d))), (a3, .inl (cI, 1575, .inl (dT d))), (a4, .inl (cI, 3060, .inl (dK d)))]) (wo := [(h, .inr (1, [.ref a1, .ref a2, .ref a3, .ref a4, .int (nI (dz (dk_append d x (-1) (-1)))), .int (nI (dl (dk_append d x (-1) (-1)))), .int (nI (dO (dk_append d x (-1) (-1))))])), (a1, .inl (cI, 1575, .inl (dC (dk_append d x (-1) (-1))))), (a2, .inl (cI, 1575, .inl (dF (dk_append d x (-1) (-1))))), (a3, .inl (cI, 1575, .inl (dT (dk_append d x (-1) (-1))))), (a4, .inl (cI, 3060, .inl (dK (dk_append d x (-1) (-1)))))]) (b := h) (As := [.int x, .int (-1), .int (-1)]) (rest := []) ⟨hx, hb, hml, hown, hts⟩ [0] (k_D_append l D cI h a1 a2 a3 a4 d ⟨hz, hlk⟩ x (-1) (-1)) (cwV 3 hts v_D_24 rfl rfl rfl (by decide +kernel) ⟨Nat.le_of_ble_eq_true rfl, Nat.le_of_ble_eq_true rfl⟩) ⟨rfl, rfl, rfl, rfl, by decide⟩ rfl hK hP hD hS hA (va_recv (ci := 1) hK hP rfl (q0 := 0) rfl) rfl hl.1 (Nat.le_of_ble_eq_true rfl) d_D_give_4 ⟨Nat.le_of_ble_eq_true rfl, Nat.le_of_ble_eq_true rfl⟩ (fun H locs hP hD hS => ?_)
  have hP : va_P D cls_ [(h, .inr (1, [.ref a1, .ref a2, .ref a3, .ref a4, .int (nI (dz (dk_append d x (-1) (-1)))), .int (nI (dl (dk_append d x (-1) (-1)))), .int (nI (dO (dk_append d x (-1) (-1))))])), (a1, .inl (cI, 1575, .inl (dC (dk_append d x (-1) (-1))))), (a2, .inl (cI, 1575, .inl (dF (dk_append d x (-1) (-1))))), (a3, .inl (cI, 1575, .inl (dT (dk_append d x (-1) (-1))))), (a4, .inl (cI, 3060, .inl (dK (dk_append d x (-1) (-1)))))] H := hP
  have hD : va_D A [(h, .inr (1, [.ref a1, .ref a2, .ref a3, .ref a4, .int (nI (dz (dk_append d x (-1) (-1)))), .int (nI (dl (dk_append d x (-1) (-1)))), .int (nI (dO (dk_append d x (-1) (-1))))])), (a1, .inl (cI, 1575, .inl (dC (dk_append d x (-1) (-1))))), (a2, .inl (cI, 1575, .inl (dF (dk_append d x (-1) (-1))))), (a3, .inl (cI, 1575, .inl (dT (dk_append d x (-1) (-1))))), (a4, .inl (cI, 3060, .inl (dK (dk_append d x (-1) (-1)))))] := hD
  skip
  exact fin _ _ _ _ hP hD hS d_D_give_7
set_option maxHeartbeats 4000000 in
set_option maxRecDepth 100000 in
theorem k_D_derive (l : Launch) (D : va_G) (cI : ClassId) (h a1 a2 a3 a4 : Nat) (d : DS) (hd : DW d) (x : Int32) : KTv l y_D_derive c_D_derive 2 { frames := 1, cells := 0, slots := 0, locals := 23 } D [(cI, .int)] [.ref h, .int x] (wD cI h a1 a2 a3 a4 d) (wD cI h a1 a2 a3 a4 (dk_derive d x)) := by
  refine KTv_of (own := R_D) (by decide +kernel) rfl (Nat.le_of_ble_eq_true rfl) ?_
  intro p e s m below meth c A ls Q hx hb hml hts hown hK hP hD hS hA hl fin
  obtain ⟨hz, hlk⟩ := hd
  refine lv_aload_n hx hb d_D_derive_0 rfl (lv_at hl 0 rfl) ?_
  refine lv_iload_n hx hb d_D_derive_1 rfl (lv_at hl 1 rfl) ?_
  refine lv_aload_n hx hb d_D_derive_2 rfl (lv_at hl 0 rfl) ?_
  refine va_get (D := D) (ci := 1) (v := .int (nI (dO d))) (C := R_D) (T := T_D) (N := 7) hx hb hts u_D hown hK hP 0 rfl rfl 6 (by decide) (hts _ f_D_32) (fun _ h9 => h9) rfl d_D_derive_3 ?_
  refine lv_aload_n hx hb d_D_derive_6 rfl (lv_at hl 0 rfl) ?_
  refine va_get (D := D) (ci := 1) (v := .int (nI (dl d))) (C := R_D) (T := T_D) (N := 7) hx hb hts u_D hown hK hP 0 rfl rfl 5 (by decide) (hts _ f_D_28) (fun _ h9 => h9) rfl d_D_derive_7 ?_
  refine CTv_V (isC := [0, 1, 2, 3, 4]) (isR := []) (wr := []) (wi := [(h, .inr (1, [.ref a1, .ref a2, .ref a3, .ref a4, .int (nI (dz d)), .int (nI (dl d)), .int (nI (dO d))])), (a1, .inl (cI, 1575, .inl (dC d))), (a2, .inl (cI, 1575, .inl (dF d))), (a3, .inl (cI, 1575, .inl (dT d))), (a4, .inl (cI, 3060, .inl (dK d)))]) (wo := [(h, .inr (1, [.ref a1, .ref a2, .ref a3, .ref a4, .int (nI (dz (dk_append d x (nI (dO d)) (nI (dl d))))), .int (nI (dl (dk_append d x (nI (dO d)) (nI (dl d))))), .int (nI (dO (dk_append d x (nI (dO d)) (nI (dl d)))))])), (a1, .inl (cI, 1575, .inl (dC (dk_append d x (nI (dO d)) (nI (dl d)))))), (a2, .inl (cI, 1575, .inl (dF (dk_append d x (nI (dO d)) (nI (dl d)))))), (a3, .inl (cI, 1575, .inl (dT (dk_append d x (nI (dO d)) (nI (dl d)))))), (a4, .inl (cI, 3060, .inl (dK (dk_append d x (nI (dO d)) (nI (dl d))))))]) (b := h) (As := [.int x, .int (nI (dO d)), .int (nI (dl d))]) (rest := []) ⟨hx, hb, hml, hown, hts⟩ [0] (k_D_append l D cI h a1 a2 a3 a4 d ⟨hz, hlk⟩ x (nI (dO d)) (nI (dl d))) (cwV 3 hts v_D_24 rfl rfl rfl (by decide +kernel) ⟨Nat.le_of_ble_eq_true rfl, Nat.le_of_ble_eq_true rfl⟩) ⟨rfl, rfl, rfl, rfl, by decide⟩ rfl hK hP hD hS hA (va_recv (ci := 1) hK hP rfl (q0 := 0) rfl) rfl hl.1 (Nat.le_of_ble_eq_true rfl) d_D_derive_10 ⟨Nat.le_of_ble_eq_true rfl, Nat.le_of_ble_eq_true rfl⟩ (fun H locs hP hD hS => ?_)
  have hP : va_P D cls_ [(h, .inr (1, [.ref a1, .ref a2, .ref a3, .ref a4, .int (nI (dz (dk_append d x (nI (dO d)) (nI (dl d))))), .int (nI (dl (dk_append d x (nI (dO d)) (nI (dl d))))), .int (nI (dO (dk_append d x (nI (dO d)) (nI (dl d)))))])), (a1, .inl (cI, 1575, .inl (dC (dk_append d x (nI (dO d)) (nI (dl d)))))), (a2, .inl (cI, 1575, .inl (dF (dk_append d x (nI (dO d)) (nI (dl d)))))), (a3, .inl (cI, 1575, .inl (dT (dk_append d x (nI (dO d)) (nI (dl d)))))), (a4, .inl (cI, 3060, .inl (dK (dk_append d x (nI (dO d)) (nI (dl d))))))] H := hP
  have hD : va_D A [(h, .inr (1, [.ref a1, .ref a2, .ref a3, .ref a4, .int (nI (dz (dk_append d x (nI (dO d)) (nI (dl d))))), .int (nI (dl (dk_append d x (nI (dO d)) (nI (dl d))))), .int (nI (dO (dk_append d x (nI (dO d)) (nI (dl d)))))])), (a1, .inl (cI, 1575, .inl (dC (dk_append d x (nI (dO d)) (nI (dl d)))))), (a2, .inl (cI, 1575, .inl (dF (dk_append d x (nI (dO d)) (nI (dl d)))))), (a3, .inl (cI, 1575, .inl (dT (dk_append d x (nI (dO d)) (nI (dl d)))))), (a4, .inl (cI, 3060, .inl (dK (dk_append d x (nI (dO d)) (nI (dl d))))))] := hD
  refine lv_aload_n hx hb d_D_derive_13 rfl (lv_at hl 0 rfl) ?_
  refine lv_aload_n hx hb d_D_derive_14 rfl (lv_at hl 0 rfl) ?_
  refine va_get (D := D) (ci := 1) (v := .int (nI (dl (dk_append d x (nI (dO d)) (nI (dl d)))))) (C := R_D) (T := T_D) (N := 7) hx hb hts u_D hown hK hP 0 rfl rfl 5 (by decide) (hts _ f_D_28) (fun _ h9 => h9) rfl d_D_derive_15 ?_
  refine va_put (D := D) (ci := 1) (v := .int (nI (dl (dk_append d x (nI (dO d)) (nI (dl d)))))) (ty := .int) (C := R_D) (T := T_D) (N := 7) hx hb hts u_D t_D t_D_ok n_D hown hK hP hD hS 0 rfl rfl 6 (by decide) (hts _ f_D_32) (fun _ h9 => h9) rfl (by decide +kernel) rfl rfl (Nat.le_of_ble_eq_true rfl) d_D_derive_18 (fun H locs hP hD hS => ?_)
  have hP : va_P D cls_ [(h, .inr (1, [.ref a1, .ref a2, .ref a3, .ref a4, .int (nI (dz (dk_append d x (nI (dO d)) (nI (dl d))))), .int (nI (dl (dk_append d x (nI (dO d)) (nI (dl d))))), .int (nI (dl (dk_append d x (nI (dO d)) (nI (dl d)))))])), (a1, .inl (cI, 1575, .inl (dC (dk_append d x (nI (dO d)) (nI (dl d)))))), (a2, .inl (cI, 1575, .inl (dF (dk_append d x (nI (dO d)) (nI (dl d)))))), (a3, .inl (cI, 1575, .inl (dT (dk_append d x (nI (dO d)) (nI (dl d)))))), (a4, .inl (cI, 3060, .inl (dK (dk_append d x (nI (dO d)) (nI (dl d))))))] H := hP
  have hD : va_D A [(h, .inr (1, [.ref a1, .ref a2, .ref a3, .ref a4, .int (nI (dz (dk_append d x (nI (dO d)) (nI (dl d))))), .int (nI (dl (dk_append d x (nI (dO d)) (nI (dl d))))), .int (nI (dl (dk_append d x (nI (dO d)) (nI (dl d)))))])), (a1, .inl (cI, 1575, .inl (dC (dk_append d x (nI (dO d)) (nI (dl d)))))), (a2, .inl (cI, 1575, .inl (dF (dk_append d x (nI (dO d)) (nI (dl d)))))), (a3, .inl (cI, 1575, .inl (dT (dk_append d x (nI (dO d)) (nI (dl d)))))), (a4, .inl (cI, 3060, .inl (dK (dk_append d x (nI (dO d)) (nI (dl d))))))] := hD
  skip
  exact fin _ _ _ _ hP hD hS d_D_derive_21
set_option maxHeartbeats 4000000 in
set_option maxRecDepth 100000 in
theorem k_D_keep (l : Launch) (D : va_G) (cI : ClassId) (h a1 a2 a3 a4 : Nat) (d : DS) (hd : DW d) (x : Int32) (g : Nat) (hg : g ≤ 1575) (hx9 : x = nI g) : KTv l y_D_keep c_D_keep 2 { frames := 1, cells := 0, slots := 0, locals := 21 } D [(cI, .int)] [.ref h, .int x] (wD cI h a1 a2 a3 a4 d) (wD cI h a1 a2 a3 a4 (dk_keep d g)) := by
  refine KTv_of (own := R_D) (by decide +kernel) rfl (Nat.le_of_ble_eq_true rfl) ?_
  intro p e s m below meth c A ls Q hx hb hml hts hown hK hP hD hS hA hl fin
  obtain ⟨hz, hlk⟩ := hd
  refine lv_aload_n hx hb d_D_keep_0 rfl (lv_at hl 0 rfl) ?_
  refine lv_aload_n hx hb d_D_keep_1 rfl (lv_at hl 0 rfl) ?_
  refine va_get (D := D) (ci := 1) (v := .int (nI (dz d))) (C := R_D) (T := T_D) (N := 7) hx hb hts u_D hown hK hP 0 rfl rfl 4 (by decide) (hts _ f_D_35) (fun _ h9 => h9) rfl d_D_keep_2 ?_
  refine lv_iload_n hx hb d_D_keep_5 rfl (lv_at hl 1 rfl) ?_
  refine lv_iconst (v := 0) hx hb d_D_keep_6 (by decide) ?_
  refine va_mmax (x := x) (y := 0) hx hb (hml.trans hl.1.symm) hown (hts _ g_D_38) (hts _ g_max_s) (hts _ g_math_i) (hts _ g_max_c) (Nat.le_of_ble_eq_true rfl) (Nat.le_of_ble_eq_true rfl) (Nat.le_of_ble_eq_true rfl) (Nat.le_of_ble_eq_true rfl) d_D_keep_7 ?_
  refine va_mmin (x := (nI (dz d))) (y := (if x < 0 then 0 else x)) hx hb (hml.trans hl.1.symm) hown (hts _ g_D_44) (hts _ g_min_s) (hts _ g_math_i) (hts _ g_min_c) (Nat.le_of_ble_eq_true rfl) (Nat.le_of_ble_eq_true rfl) (Nat.le_of_ble_eq_true rfl) (Nat.le_of_ble_eq_true rfl) d_D_keep_10 ?_
  refine va_put (D := D) (ci := 1) (v := .int (if (if x < 0 then 0 else x) < (nI (dz d)) then (if x < 0 then 0 else x) else (nI (dz d)))) (ty := .int) (C := R_D) (T := T_D) (N := 7) hx hb hts u_D t_D t_D_ok n_D hown hK hP hD hS 0 rfl rfl 4 (by decide) (hts _ f_D_35) (fun _ h9 => h9) rfl (by decide +kernel) rfl rfl (Nat.le_of_ble_eq_true rfl) d_D_keep_13 (fun H locs hP hD hS => ?_)
  have hP : va_P D cls_ [(h, .inr (1, [.ref a1, .ref a2, .ref a3, .ref a4, .int (if (if x < 0 then 0 else x) < (nI (dz d)) then (if x < 0 then 0 else x) else (nI (dz d))), .int (nI (dl d)), .int (nI (dO d))])), (a1, .inl (cI, 1575, .inl (dC d))), (a2, .inl (cI, 1575, .inl (dF d))), (a3, .inl (cI, 1575, .inl (dT d))), (a4, .inl (cI, 3060, .inl (dK d)))] H := hP
  have hD : va_D A [(h, .inr (1, [.ref a1, .ref a2, .ref a3, .ref a4, .int (if (if x < 0 then 0 else x) < (nI (dz d)) then (if x < 0 then 0 else x) else (nI (dz d))), .int (nI (dl d)), .int (nI (dO d))])), (a1, .inl (cI, 1575, .inl (dC d))), (a2, .inl (cI, 1575, .inl (dF d))), (a3, .inl (cI, 1575, .inl (dT d))), (a4, .inl (cI, 3060, .inl (dK d)))] := hD
  refine lv_aload_n hx hb d_D_keep_16 rfl (lv_at hl 0 rfl) ?_
  refine lv_iconst (v := 0) hx hb d_D_keep_17 (by decide) ?_
  refine va_put (D := D) (ci := 1) (v := .int 0) (ty := .int) (C := R_D) (T := T_D) (N := 7) hx hb hts u_D t_D t_D_ok n_D hown hK hP hD hS 0 rfl rfl 5 (by decide) (hts _ f_D_28) (fun _ h9 => h9) rfl (by decide +kernel) rfl rfl (Nat.le_of_ble_eq_true rfl) d_D_keep_18 (fun H locs hP hD hS => ?_)
  have hP : va_P D cls_ [(h, .inr (1, [.ref a1, .ref a2, .ref a3, .ref a4, .int (if (if x < 0 then 0 else x) < (nI (dz d)) then (if x < 0 then 0 else x) else (nI (dz d))), .int 0, .int (nI (dO d))])), (a1, .inl (cI, 1575, .inl (dC d))), (a2, .inl (cI, 1575, .inl (dF d))), (a3, .inl (cI, 1575, .inl (dT d))), (a4, .inl (cI, 3060, .inl (dK d)))] H := hP
  have hD : va_D A [(h, .inr (1, [.ref a1, .ref a2, .ref a3, .ref a4, .int (if (if x < 0 then 0 else x) < (nI (dz d)) then (if x < 0 then 0 else x) else (nI (dz d))), .int 0, .int (nI (dO d))])), (a1, .inl (cI, 1575, .inl (dC d))), (a2, .inl (cI, 1575, .inl (dF d))), (a3, .inl (cI, 1575, .inl (dT d))), (a4, .inl (cI, 3060, .inl (dK d)))] := hD
  refine lv_aload_n hx hb d_D_keep_21 rfl (lv_at hl 0 rfl) ?_
  refine lv_iconst (v := 0) hx hb d_D_keep_22 (by decide) ?_
  refine va_put (D := D) (ci := 1) (v := .int 0) (ty := .int) (C := R_D) (T := T_D) (N := 7) hx hb hts u_D t_D t_D_ok n_D hown hK hP hD hS 0 rfl rfl 6 (by decide) (hts _ f_D_32) (fun _ h9 => h9) rfl (by decide +kernel) rfl rfl (Nat.le_of_ble_eq_true rfl) d_D_keep_23 (fun H locs hP hD hS => ?_)
  have hP : va_P D cls_ [(h, .inr (1, [.ref a1, .ref a2, .ref a3, .ref a4, .int (if (if x < 0 then 0 else x) < (nI (dz d)) then (if x < 0 then 0 else x) else (nI (dz d))), .int 0, .int 0])), (a1, .inl (cI, 1575, .inl (dC d))), (a2, .inl (cI, 1575, .inl (dF d))), (a3, .inl (cI, 1575, .inl (dT d))), (a4, .inl (cI, 3060, .inl (dK d)))] H := hP
  have hD : va_D A [(h, .inr (1, [.ref a1, .ref a2, .ref a3, .ref a4, .int (if (if x < 0 then 0 else x) < (nI (dz d)) then (if x < 0 then 0 else x) else (nI (dz d))), .int 0, .int 0])), (a1, .inl (cI, 1575, .inl (dC d))), (a2, .inl (cI, 1575, .inl (dF d))), (a3, .inl (cI, 1575, .inl (dT d))), (a4, .inl (cI, 3060, .inl (dK d)))] := hD
  subst hx9
  rw [keep_eq hz hg] at hP hD
  exact fin _ _ _ _ hP hD hS d_D_keep_26
end
section
/-! Part 31: Search, its small methods, by program (wip/whole/gen_search.py) -/
abbrev wS (cI : ClassId) (b b1 b2 : Nat) (s : SS) : va_W := [(b, .inr (2, [.ref b1, .ref b2, .int (nI (sn s)), .int (sh s)])), (b1, .inl (cI, 10, .inl (sT s))), (b2, .inl (cI, 10, .inl (sR s)))]
abbrev wX (cI : ClassId) (b b1 b2 h a1 a2 a3 a4 : Nat) (s : SS) (d : DS) : va_W := [(b, .inr (2, [.ref b1, .ref b2, .int (nI (sn s)), .int (sh s)])), (b1, .inl (cI, 10, .inl (sT s))), (b2, .inl (cI, 10, .inl (sR s))), (h, .inr (1, [.ref a1, .ref a2, .ref a3, .ref a4, .int (nI (dz d)), .int (nI (dl d)), .int (nI (dO d))])), (a1, .inl (cI, 1575, .inl (dC d))), (a2, .inl (cI, 1575, .inl (dF d))), (a3, .inl (cI, 1575, .inl (dT d))), (a4, .inl (cI, 3060, .inl (dK d)))]
theorem sr_jump_s (T R : Nat → Int32) (x : Int32) (k t : Nat) : sr_jump T R x (k + 1) t = if x &&& cc_neg (T k) = 0 then (if R k = -1 then sr_jump T R x k k else sr_jump T R x k t) else t := rfl
theorem im1 (x : Int32) : x + Int32.ofInt (-1) = x - 1 := by
  rw [Int32.sub_eq_add_neg]
  rfl
theorem neg0 : nI 0 - 1 < 0 := by decide +kernel
theorem neg0g {g : Nat} (h : g < 2 ^ 31) : nI 0 - 1 < nI g := by
  rw [Int32.lt_iff_toInt_lt, nI_toInt h, show (nI 0 - 1).toInt = -1 from by decide +kernel]
  omega
theorem max0 {k : Nat} (hk : k < 2 ^ 31) : (if nI k - 1 < 0 then 0 else nI k - 1) = nI (k - 1) := by
  cases k with
  | zero => decide +kernel
  | succ k =>
    rw [nI_pred, if_neg (nI_pos (by omega))]
    rfl
theorem min_eq_ {a g : Nat} (ha : a < 2 ^ 31) (hg : g < 2 ^ 31) : (if nI g < nI a then nI g else nI a) = nI (if a ≤ g then a else g) := by
  by_cases h : a ≤ g
  · rw [if_pos h, if_neg (nI_nlt h hg)]
  · rw [if_neg h, if_pos (nI_lt (by omega) ha)]
set_option maxHeartbeats 4000000 in
set_option maxRecDepth 100000 in
theorem k_S_begin (l : Launch) (D : va_G) (cI : ClassId) (b b1 b2 : Nat) (s : SS) (hs : sn s ≤ 10) : KTv l y_S_begin c_S_begin 1 { frames := 0, cells := 0, slots := 0, locals := 0 } D [(cI, .int)] [.ref b] (wS cI b b1 b2 s) (wS cI b b1 b2 (sT s, sR s, 0, 0)) := by
  refine KTv_of (own := R_S) (by decide +kernel) rfl (Nat.le_of_ble_eq_true rfl) ?_
  intro p e st m below meth c A ls Q hx hb hml hts hown hK hP hD hS hA hl fin
  refine lv_aload_n hx hb d_S_begin_0 rfl (lv_at hl 0 rfl) ?_
  refine lv_iconst (v := 0) hx hb d_S_begin_1 (by decide) ?_
  refine va_put (D := D) (ci := 2) (v := .int 0) (ty := .int) (C := R_S) (T := T_S) (N := 4) hx hb hts u_S t_S t_S_ok n_S hown hK hP hD hS 0 rfl rfl 2 (by decide) (hts _ f_S_18) (fun _ h9 => h9) rfl (by decide +kernel) rfl rfl (Nat.le_of_ble_eq_true rfl) d_S_begin_2 (fun H locs hP hD hS => ?_)
  have hP : va_P D cls_ [(b, .inr (2, [.ref b1, .ref b2, .int 0, .int (sh s)])), (b1, .inl (cI, 10, .inl (sT s))), (b2, .inl (cI, 10, .inl (sR s)))] H := hP
  have hD : va_D A [(b, .inr (2, [.ref b1, .ref b2, .int 0, .int (sh s)])), (b1, .inl (cI, 10, .inl (sT s))), (b2, .inl (cI, 10, .inl (sR s)))] := hD
  refine lv_aload_n hx hb d_S_begin_5 rfl (lv_at hl 0 rfl) ?_
  refine lv_iconst (v := 0) hx hb d_S_begin_6 (by decide) ?_
  refine va_put (D := D) (ci := 2) (v := .int 0) (ty := .int) (C := R_S) (T := T_S) (N := 4) hx hb hts u_S t_S t_S_ok n_S hown hK hP hD hS 0 rfl rfl 3 (by decide) (hts _ f_S_22) (fun _ h9 => h9) rfl (by decide +kernel) rfl rfl (Nat.le_of_ble_eq_true rfl) d_S_begin_7 (fun H locs hP hD hS => ?_)
  have hP : va_P D cls_ [(b, .inr (2, [.ref b1, .ref b2, .int 0, .int 0])), (b1, .inl (cI, 10, .inl (sT s))), (b2, .inl (cI, 10, .inl (sR s)))] H := hP
  have hD : va_D A [(b, .inr (2, [.ref b1, .ref b2, .int 0, .int 0])), (b1, .inl (cI, 10, .inl (sT s))), (b2, .inl (cI, 10, .inl (sR s)))] := hD
  exact fin _ _ _ _ hP hD hS d_S_begin_10
set_option maxHeartbeats 4000000 in
set_option maxRecDepth 100000 in
theorem k_S_held (l : Launch) (D : va_G) (cI : ClassId) (b b1 b2 : Nat) (s : SS) (hs : sn s ≤ 10) : KTi l y_S_held c_S_held 1 .int { frames := 0, cells := 0, slots := 0, locals := 0 } D [(cI, .int)] [.ref b] (wS cI b b1 b2 s) (sh s) (wS cI b b1 b2 s) := by
  refine KTi_of (own := R_S) (by decide +kernel) rfl (Nat.le_of_ble_eq_true rfl) (vp_nar_int _) ?_
  intro p e st m below meth c A ls Q hx hb hml hts hown hK hP hD hS hA hl fin
  refine lv_aload_n hx hb d_S_held_0 rfl (lv_at hl 0 rfl) ?_
  refine va_get (D := D) (ci := 2) (v := .int (sh s)) (C := R_S) (T := T_S) (N := 4) hx hb hts u_S hown hK hP 0 rfl rfl 3 (by decide) (hts _ f_S_22) (fun _ h9 => h9) rfl d_S_held_1 ?_
  exact fin _ _ _ _ _ hP hD hS (rfl) d_S_held_4
set_option maxHeartbeats 4000000 in
set_option maxRecDepth 100000 in
theorem k_S_hold (l : Launch) (D : va_G) (cI : ClassId) (b b1 b2 : Nat) (s : SS) (hs : sn s ≤ 10) (x : Int32) (r : Int32) : KTv l y_S_hold c_S_hold 3 { frames := 0, cells := 0, slots := 0, locals := 0 } D [(cI, .int)] [.ref b, .int x, .int r] (wS cI b b1 b2 s) (wS cI b b1 b2 (sr_hold s x r)) := by
  refine KTv_of (own := R_S) (by decide +kernel) rfl (Nat.le_of_ble_eq_true rfl) ?_
  intro p e st m below meth c A ls Q hx hb hml hts hown hK hP hD hS hA hl fin
  refine lv_aload_n hx hb d_S_hold_0 rfl (lv_at hl 0 rfl) ?_
  refine va_get (D := D) (ci := 2) (v := .int (nI (sn s))) (C := R_S) (T := T_S) (N := 4) hx hb hts u_S hown hK hP 0 rfl rfl 2 (by decide) (hts _ f_S_18) (fun _ h9 => h9) rfl d_S_hold_1 ?_
  refine lv_aload_n hx hb d_S_hold_4 rfl (lv_at hl 0 rfl) ?_
  refine va_get (D := D) (ci := 2) (v := .ref b1) (C := R_S) (T := T_S) (N := 4) hx hb hts u_S hown hK hP 0 rfl rfl 0 (by decide) (hts _ f_S_9) (fun _ h9 => h9) rfl d_S_hold_5 ?_
  refine va_alen (v := 10) hx hb hK hP 1 0 rfl rfl rfl d_S_hold_8 ?_
  refine lv_icmp_ge (tgt := 52) hx hb d_S_hold_9 rfl (fun hc9 => ?_) (fun hc9 => ?_)
  · have e9 : sr_hold s x r = s := if_neg (fun h => Int32.not_le.mpr (nI_lt (b := 10) h (by decide)) hc9)
    rw [e9] at fin
    exact fin _ _ _ _ hP hD hS d_S_hold_52
  · have hlt : sn s < 10 := (nI_ltI (by omega) (by decide)).1 (Int32.not_le.mp hc9)
    refine lv_aload_n hx hb d_S_hold_12 rfl (lv_at hl 0 rfl) ?_
    refine va_get (D := D) (ci := 2) (v := .ref b1) (C := R_S) (T := T_S) (N := 4) hx hb hts u_S hown hK hP 0 rfl rfl 0 (by decide) (hts _ f_S_9) (fun _ h9 => h9) rfl d_S_hold_13 ?_
    refine lv_aload_n hx hb d_S_hold_16 rfl (lv_at hl 0 rfl) ?_
    refine va_get (D := D) (ci := 2) (v := .int (nI (sn s))) (C := R_S) (T := T_S) (N := 4) hx hb hts u_S hown hK hP 0 rfl rfl 2 (by decide) (hts _ f_S_18) (fun _ h9 => h9) rfl d_S_hold_17 ?_
    refine lv_iload_n hx hb d_S_hold_20 rfl (lv_at hl 1 rfl) ?_
    refine va_iast (D := D) (i := (nI (sn s))) (x := x) hx hb hK hP hD hS 1 0 rfl rfl (vp_in_nI hlt (by decide)) d_S_hold_21 (fun H locs hP hD hS => ?_)
    rw [show ((nI (sn s)) : Int32).toNatClampNeg = (sn s) from nI_clamp (by omega)] at hP hD
    have hP : va_P D cls_ [(b, .inr (2, [.ref b1, .ref b2, .int (nI (sn s)), .int (sh s)])), (b1, .inl (cI, 10, .inl (upd (sT s) ((sn s)) (x)))), (b2, .inl (cI, 10, .inl (sR s)))] H := hP
    have hD : va_D A [(b, .inr (2, [.ref b1, .ref b2, .int (nI (sn s)), .int (sh s)])), (b1, .inl (cI, 10, .inl (upd (sT s) ((sn s)) (x)))), (b2, .inl (cI, 10, .inl (sR s)))] := hD
    refine lv_aload_n hx hb d_S_hold_22 rfl (lv_at hl 0 rfl) ?_
    refine va_get (D := D) (ci := 2) (v := .ref b2) (C := R_S) (T := T_S) (N := 4) hx hb hts u_S hown hK hP 0 rfl rfl 1 (by decide) (hts _ f_S_15) (fun _ h9 => h9) rfl d_S_hold_23 ?_
    refine lv_aload_n hx hb d_S_hold_26 rfl (lv_at hl 0 rfl) ?_
    refine va_get (D := D) (ci := 2) (v := .int (nI (sn s))) (C := R_S) (T := T_S) (N := 4) hx hb hts u_S hown hK hP 0 rfl rfl 2 (by decide) (hts _ f_S_18) (fun _ h9 => h9) rfl d_S_hold_27 ?_
    refine lv_iload_n hx hb d_S_hold_30 rfl (lv_at hl 2 rfl) ?_
    refine va_iast (D := D) (i := (nI (sn s))) (x := r) hx hb hK hP hD hS 2 0 rfl rfl (vp_in_nI hlt (by decide)) d_S_hold_31 (fun H locs hP hD hS => ?_)
    rw [show ((nI (sn s)) : Int32).toNatClampNeg = (sn s) from nI_clamp (by omega)] at hP hD
    have hP : va_P D cls_ [(b, .inr (2, [.ref b1, .ref b2, .int (nI (sn s)), .int (sh s)])), (b1, .inl (cI, 10, .inl (upd (sT s) ((sn s)) (x)))), (b2, .inl (cI, 10, .inl (upd (sR s) ((sn s)) (r))))] H := hP
    have hD : va_D A [(b, .inr (2, [.ref b1, .ref b2, .int (nI (sn s)), .int (sh s)])), (b1, .inl (cI, 10, .inl (upd (sT s) ((sn s)) (x)))), (b2, .inl (cI, 10, .inl (upd (sR s) ((sn s)) (r))))] := hD
    refine lv_aload_n hx hb d_S_hold_32 rfl (lv_at hl 0 rfl) ?_
    refine lv_dup hx hb d_S_hold_33 rfl ?_
    refine va_get (D := D) (ci := 2) (v := .int (nI (sn s))) (C := R_S) (T := T_S) (N := 4) hx hb hts u_S hown hK hP 0 rfl rfl 2 (by decide) (hts _ f_S_18) (fun _ h9 => h9) rfl d_S_hold_34 ?_
    refine lv_iconst (v := 1) hx hb d_S_hold_37 (by decide) ?_
    refine lv_iadd hx hb d_S_hold_38 ?_
    refine va_put (D := D) (ci := 2) (v := .int ((nI (sn s)) + 1)) (ty := .int) (C := R_S) (T := T_S) (N := 4) hx hb hts u_S t_S t_S_ok n_S hown hK hP hD hS 0 rfl rfl 2 (by decide) (hts _ f_S_18) (fun _ h9 => h9) rfl (by decide +kernel) rfl rfl (Nat.le_of_ble_eq_true rfl) d_S_hold_39 (fun H locs hP hD hS => ?_)
    have hP : va_P D cls_ [(b, .inr (2, [.ref b1, .ref b2, .int ((nI (sn s)) + 1), .int (sh s)])), (b1, .inl (cI, 10, .inl (upd (sT s) ((sn s)) (x)))), (b2, .inl (cI, 10, .inl (upd (sR s) ((sn s)) (r))))] H := hP
    have hD : va_D A [(b, .inr (2, [.ref b1, .ref b2, .int ((nI (sn s)) + 1), .int (sh s)])), (b1, .inl (cI, 10, .inl (upd (sT s) ((sn s)) (x)))), (b2, .inl (cI, 10, .inl (upd (sR s) ((sn s)) (r))))] := hD
    refine lv_aload_n hx hb d_S_hold_42 rfl (lv_at hl 0 rfl) ?_
    refine lv_dup hx hb d_S_hold_43 rfl ?_
    refine va_get (D := D) (ci := 2) (v := .int (sh s)) (C := R_S) (T := T_S) (N := 4) hx hb hts u_S hown hK hP 0 rfl rfl 3 (by decide) (hts _ f_S_22) (fun _ h9 => h9) rfl d_S_hold_44 ?_
    refine lv_iload_n hx hb d_S_hold_47 rfl (lv_at hl 1 rfl) ?_
    refine lv_ior hx hb d_S_hold_48 ?_
    refine va_put (D := D) (ci := 2) (v := .int ((sh s) ||| x)) (ty := .int) (C := R_S) (T := T_S) (N := 4) hx hb hts u_S t_S t_S_ok n_S hown hK hP hD hS 0 rfl rfl 3 (by decide) (hts _ f_S_22) (fun _ h9 => h9) rfl (by decide +kernel) rfl rfl (Nat.le_of_ble_eq_true rfl) d_S_hold_49 (fun H locs hP hD hS => ?_)
    have hP : va_P D cls_ [(b, .inr (2, [.ref b1, .ref b2, .int ((nI (sn s)) + 1), .int ((sh s) ||| x)])), (b1, .inl (cI, 10, .inl (upd (sT s) ((sn s)) (x)))), (b2, .inl (cI, 10, .inl (upd (sR s) ((sn s)) (r))))] H := hP
    have hD : va_D A [(b, .inr (2, [.ref b1, .ref b2, .int ((nI (sn s)) + 1), .int ((sh s) ||| x)])), (b1, .inl (cI, 10, .inl (upd (sT s) ((sn s)) (x)))), (b2, .inl (cI, 10, .inl (upd (sR s) ((sn s)) (r))))] := hD
    have e9 : sr_hold s x r = (upd (sT s) (sn s) x, upd (sR s) (sn s) r, sn s + 1, sh s ||| x) := if_pos hlt
    rw [e9] at fin
    rw [nI_1] at hP hD
    exact fin _ _ _ _ hP hD hS d_S_hold_52
set_option maxHeartbeats 4000000 in
set_option maxRecDepth 100000 in
theorem k_S_decide (l : Launch) (D : va_G) (cI : ClassId) (b b1 b2 : Nat) (s : SS) (hs : sn s ≤ 10) (x : Int32) (n : Nat) (hx9 : x = nI n) : KTv l y_S_decide c_S_decide 3 { frames := 1, cells := 0, slots := 0, locals := 22 } D [(cI, .int)] [.ref b, .int x] (wS cI b b1 b2 s) (wS cI b b1 b2 (sr_decide n s)) := by
  refine KTv_of (own := R_S) (by decide +kernel) rfl (Nat.le_of_ble_eq_true rfl) ?_
  intro p e st m below meth c A ls Q hx hb hml hts hown hK hP hD hS hA hl fin
  refine lv_iload_n hx hb d_S_decide_0 rfl (lv_at hl 1 rfl) ?_
  refine CTi_S (isC := []) (isR := [0, 1, 2]) (wr := [(b, .inr (2, [.ref b1, .ref b2, .int (nI (sn s)), .int (sh s)])), (b1, .inl (cI, 10, .inl (sT s))), (b2, .inl (cI, 10, .inl (sR s)))]) (wi := []) (wo := []) (As := [.int x]) (rest := []) ⟨hx, hb, hml, hown, hts⟩ [] (k_L_positivesUpTo l D (x)) (va_cwS 1 hts v_S_64 rfl rfl rfl (by decide +kernel) ⟨Nat.le_of_ble_eq_true rfl, Nat.le_of_ble_eq_true rfl⟩) ⟨rfl, rfl, rfl, rfl, by decide⟩ rfl hK hP hD hS hA rfl hl.1 (Nat.le_of_ble_eq_true rfl) d_S_decide_1 ⟨Nat.le_of_ble_eq_true rfl, Nat.le_of_ble_eq_true rfl⟩ (fun H locs hP hD hS => ?_)
  have hP : va_P D cls_ [(b, .inr (2, [.ref b1, .ref b2, .int (nI (sn s)), .int (sh s)])), (b1, .inl (cI, 10, .inl (sT s))), (b2, .inl (cI, 10, .inl (sR s)))] H := hP
  have hD : va_D A [(b, .inr (2, [.ref b1, .ref b2, .int (nI (sn s)), .int (sh s)])), (b1, .inl (cI, 10, .inl (sT s))), (b2, .inl (cI, 10, .inl (sR s)))] := hD
  refine lv_aload_n hx hb d_S_decide_4 rfl (lv_at hl 0 rfl) ?_
  refine va_get (D := D) (ci := 2) (v := .int (sh s)) (C := R_S) (T := T_S) (N := 4) hx hb hts u_S hown hK hP 0 rfl rfl 3 (by decide) (hts _ f_S_22) (fun _ h9 => h9) rfl d_S_decide_5 ?_
  refine lv_aload_n hx hb d_S_decide_8 rfl (lv_at hl 0 rfl) ?_
  refine va_get (D := D) (ci := 2) (v := .int (sh s)) (C := R_S) (T := T_S) (N := 4) hx hb hts u_S hown hK hP 0 rfl rfl 3 (by decide) (hts _ f_S_22) (fun _ h9 => h9) rfl d_S_decide_9 ?_
  refine CTi_S (isC := []) (isR := [0, 1, 2]) (wr := [(b, .inr (2, [.ref b1, .ref b2, .int (nI (sn s)), .int (sh s)])), (b1, .inl (cI, 10, .inl (sT s))), (b2, .inl (cI, 10, .inl (sR s)))]) (wi := []) (wo := []) (As := [.int (sh s)]) (rest := [.int (sh s), .int (((1 : Int32) <<< ((x) &&& 31)) - 1)]) ⟨hx, hb, hml, hown, hts⟩ [] (k_L_opposite l D ((sh s))) (va_cwS 1 hts v_S_51 rfl rfl rfl (by decide +kernel) ⟨Nat.le_of_ble_eq_true rfl, Nat.le_of_ble_eq_true rfl⟩) ⟨rfl, rfl, rfl, rfl, by decide⟩ rfl hK hP hD hS hA rfl hl.1 (Nat.le_of_ble_eq_true rfl) d_S_decide_12 ⟨Nat.le_of_ble_eq_true rfl, Nat.le_of_ble_eq_true rfl⟩ (fun H locs hP hD hS => ?_)
  have hP : va_P D cls_ [(b, .inr (2, [.ref b1, .ref b2, .int (nI (sn s)), .int (sh s)])), (b1, .inl (cI, 10, .inl (sT s))), (b2, .inl (cI, 10, .inl (sR s)))] H := hP
  have hD : va_D A [(b, .inr (2, [.ref b1, .ref b2, .int (nI (sn s)), .int (sh s)])), (b1, .inl (cI, 10, .inl (sT s))), (b2, .inl (cI, 10, .inl (sR s)))] := hD
  refine lv_ior hx hb d_S_decide_15 ?_
  refine lv_iconst (v := (-1)) hx hb d_S_decide_16 (by decide) ?_
  refine lv_ixor hx hb d_S_decide_17 ?_
  refine lv_iand hx hb d_S_decide_18 ?_
  refine lv_istore_n (lv' := [(2, .int ((((1 : Int32) <<< ((x) &&& 31)) - 1) &&& (((sh s) ||| (cc_neg ((sh s)))) ^^^ (-1)))), (0, .ref b), (1, .int x)]) hx hb d_S_decide_19 rfl hl (by decide) rfl (fun ls hl => ?_)
  refine lv_aload_n hx hb d_S_decide_20 rfl (lv_at hl 1 rfl) ?_
  refine lv_iload_n hx hb d_S_decide_21 rfl (lv_at hl 0 rfl) ?_
  refine lv_iload_n hx hb d_S_decide_22 rfl (lv_at hl 0 rfl) ?_
  refine lv_ineg hx hb d_S_decide_23 ?_
  refine lv_iand hx hb d_S_decide_24 ?_
  refine CTi_S (isC := []) (isR := [0, 1, 2]) (wr := [(b, .inr (2, [.ref b1, .ref b2, .int (nI (sn s)), .int (sh s)])), (b1, .inl (cI, 10, .inl (sT s))), (b2, .inl (cI, 10, .inl (sR s)))]) (wi := []) (wo := []) (As := [.int (((((1 : Int32) <<< ((x) &&& 31)) - 1) &&& (((sh s) ||| (cc_neg ((sh s)))) ^^^ (-1))) &&& (-((((1 : Int32) <<< ((x) &&& 31)) - 1) &&& (((sh s) ||| (cc_neg ((sh s)))) ^^^ (-1)))))]) (rest := [.ref b]) ⟨hx, hb, hml, hown, hts⟩ [] (k_L_opposite l D ((((((1 : Int32) <<< ((x) &&& 31)) - 1) &&& (((sh s) ||| (cc_neg ((sh s)))) ^^^ (-1))) &&& (-((((1 : Int32) <<< ((x) &&& 31)) - 1) &&& (((sh s) ||| (cc_neg ((sh s)))) ^^^ (-1))))))) (va_cwS 1 hts v_S_51 rfl rfl rfl (by decide +kernel) ⟨Nat.le_of_ble_eq_true rfl, Nat.le_of_ble_eq_true rfl⟩) ⟨rfl, rfl, rfl, rfl, by decide⟩ rfl hK hP hD hS hA rfl hl.1 (Nat.le_of_ble_eq_true rfl) d_S_decide_25 ⟨Nat.le_of_ble_eq_true rfl, Nat.le_of_ble_eq_true rfl⟩ (fun H locs hP hD hS => ?_)
  have hP : va_P D cls_ [(b, .inr (2, [.ref b1, .ref b2, .int (nI (sn s)), .int (sh s)])), (b1, .inl (cI, 10, .inl (sT s))), (b2, .inl (cI, 10, .inl (sR s)))] H := hP
  have hD : va_D A [(b, .inr (2, [.ref b1, .ref b2, .int (nI (sn s)), .int (sh s)])), (b1, .inl (cI, 10, .inl (sT s))), (b2, .inl (cI, 10, .inl (sR s)))] := hD
  refine lv_iconst (v := (-1)) hx hb d_S_decide_28 (by decide) ?_
  refine CTv_V (isC := [0, 1, 2]) (isR := []) (wr := []) (wi := [(b, .inr (2, [.ref b1, .ref b2, .int (nI (sn s)), .int (sh s)])), (b1, .inl (cI, 10, .inl (sT s))), (b2, .inl (cI, 10, .inl (sR s)))]) (wo := [(b, .inr (2, [.ref b1, .ref b2, .int (nI (sn (sr_hold s ((cc_neg ((((((1 : Int32) <<< ((x) &&& 31)) - 1) &&& (((sh s) ||| (cc_neg ((sh s)))) ^^^ (-1))) &&& (-((((1 : Int32) <<< ((x) &&& 31)) - 1) &&& (((sh s) ||| (cc_neg ((sh s)))) ^^^ (-1)))))))) ((-1))))), .int (sh (sr_hold s ((cc_neg ((((((1 : Int32) <<< ((x) &&& 31)) - 1) &&& (((sh s) ||| (cc_neg ((sh s)))) ^^^ (-1))) &&& (-((((1 : Int32) <<< ((x) &&& 31)) - 1) &&& (((sh s) ||| (cc_neg ((sh s)))) ^^^ (-1)))))))) ((-1))))])), (b1, .inl (cI, 10, .inl (sT (sr_hold s ((cc_neg ((((((1 : Int32) <<< ((x) &&& 31)) - 1) &&& (((sh s) ||| (cc_neg ((sh s)))) ^^^ (-1))) &&& (-((((1 : Int32) <<< ((x) &&& 31)) - 1) &&& (((sh s) ||| (cc_neg ((sh s)))) ^^^ (-1)))))))) ((-1)))))), (b2, .inl (cI, 10, .inl (sR (sr_hold s ((cc_neg ((((((1 : Int32) <<< ((x) &&& 31)) - 1) &&& (((sh s) ||| (cc_neg ((sh s)))) ^^^ (-1))) &&& (-((((1 : Int32) <<< ((x) &&& 31)) - 1) &&& (((sh s) ||| (cc_neg ((sh s)))) ^^^ (-1)))))))) ((-1))))))]) (b := b) (As := [.int (cc_neg ((((((1 : Int32) <<< ((x) &&& 31)) - 1) &&& (((sh s) ||| (cc_neg ((sh s)))) ^^^ (-1))) &&& (-((((1 : Int32) <<< ((x) &&& 31)) - 1) &&& (((sh s) ||| (cc_neg ((sh s)))) ^^^ (-1))))))), .int (-1)]) (rest := []) ⟨hx, hb, hml, hown, hts⟩ [0] (k_S_hold l D cI b b1 b2 s hs ((cc_neg ((((((1 : Int32) <<< ((x) &&& 31)) - 1) &&& (((sh s) ||| (cc_neg ((sh s)))) ^^^ (-1))) &&& (-((((1 : Int32) <<< ((x) &&& 31)) - 1) &&& (((sh s) ||| (cc_neg ((sh s)))) ^^^ (-1)))))))) ((-1))) (cwV 2 hts v_S_60 rfl rfl rfl (by decide +kernel) ⟨Nat.le_of_ble_eq_true rfl, Nat.le_of_ble_eq_true rfl⟩) ⟨rfl, rfl, rfl, rfl, by decide⟩ rfl hK hP hD hS hA (va_recv (ci := 2) hK hP rfl (q0 := 0) rfl) rfl hl.1 (Nat.le_of_ble_eq_true rfl) d_S_decide_29 ⟨Nat.le_of_ble_eq_true rfl, Nat.le_of_ble_eq_true rfl⟩ (fun H locs hP hD hS => ?_)
  have hP : va_P D cls_ [(b, .inr (2, [.ref b1, .ref b2, .int (nI (sn (sr_hold s ((cc_neg ((((((1 : Int32) <<< ((x) &&& 31)) - 1) &&& (((sh s) ||| (cc_neg ((sh s)))) ^^^ (-1))) &&& (-((((1 : Int32) <<< ((x) &&& 31)) - 1) &&& (((sh s) ||| (cc_neg ((sh s)))) ^^^ (-1)))))))) ((-1))))), .int (sh (sr_hold s ((cc_neg ((((((1 : Int32) <<< ((x) &&& 31)) - 1) &&& (((sh s) ||| (cc_neg ((sh s)))) ^^^ (-1))) &&& (-((((1 : Int32) <<< ((x) &&& 31)) - 1) &&& (((sh s) ||| (cc_neg ((sh s)))) ^^^ (-1)))))))) ((-1))))])), (b1, .inl (cI, 10, .inl (sT (sr_hold s ((cc_neg ((((((1 : Int32) <<< ((x) &&& 31)) - 1) &&& (((sh s) ||| (cc_neg ((sh s)))) ^^^ (-1))) &&& (-((((1 : Int32) <<< ((x) &&& 31)) - 1) &&& (((sh s) ||| (cc_neg ((sh s)))) ^^^ (-1)))))))) ((-1)))))), (b2, .inl (cI, 10, .inl (sR (sr_hold s ((cc_neg ((((((1 : Int32) <<< ((x) &&& 31)) - 1) &&& (((sh s) ||| (cc_neg ((sh s)))) ^^^ (-1))) &&& (-((((1 : Int32) <<< ((x) &&& 31)) - 1) &&& (((sh s) ||| (cc_neg ((sh s)))) ^^^ (-1)))))))) ((-1))))))] H := hP
  have hD : va_D A [(b, .inr (2, [.ref b1, .ref b2, .int (nI (sn (sr_hold s ((cc_neg ((((((1 : Int32) <<< ((x) &&& 31)) - 1) &&& (((sh s) ||| (cc_neg ((sh s)))) ^^^ (-1))) &&& (-((((1 : Int32) <<< ((x) &&& 31)) - 1) &&& (((sh s) ||| (cc_neg ((sh s)))) ^^^ (-1)))))))) ((-1))))), .int (sh (sr_hold s ((cc_neg ((((((1 : Int32) <<< ((x) &&& 31)) - 1) &&& (((sh s) ||| (cc_neg ((sh s)))) ^^^ (-1))) &&& (-((((1 : Int32) <<< ((x) &&& 31)) - 1) &&& (((sh s) ||| (cc_neg ((sh s)))) ^^^ (-1)))))))) ((-1))))])), (b1, .inl (cI, 10, .inl (sT (sr_hold s ((cc_neg ((((((1 : Int32) <<< ((x) &&& 31)) - 1) &&& (((sh s) ||| (cc_neg ((sh s)))) ^^^ (-1))) &&& (-((((1 : Int32) <<< ((x) &&& 31)) - 1) &&& (((sh s) ||| (cc_neg ((sh s)))) ^^^ (-1)))))))) ((-1)))))), (b2, .inl (cI, 10, .inl (sR (sr_hold s ((cc_neg ((((((1 : Int32) <<< ((x) &&& 31)) - 1) &&& (((sh s) ||| (cc_neg ((sh s)))) ^^^ (-1))) &&& (-((((1 : Int32) <<< ((x) &&& 31)) - 1) &&& (((sh s) ||| (cc_neg ((sh s)))) ^^^ (-1)))))))) ((-1))))))] := hD
  subst hx9
  exact fin _ _ _ _ hP hD hS d_S_decide_32
set_option maxHeartbeats 4000000 in
set_option maxRecDepth 100000 in
theorem k_S_latestDecision (l : Launch) (D : va_G) (cI : ClassId) (b b1 b2 : Nat) (s : SS) (hs : sn s ≤ 10) : KTi l y_S_latestDecision c_S_latestDecision 2 .int { frames := 0, cells := 0, slots := 0, locals := 0 } D [(cI, .int)] [.ref b] (wS cI b b1 b2 s) (nI (sr_ld (sR s) (sn s)) - 1) (wS cI b b1 b2 s) := by
  refine KTi_of (own := R_S) (by decide +kernel) rfl (Nat.le_of_ble_eq_true rfl) (vp_nar_int _) ?_
  intro p e st m below meth c A ls Q hx hb hml hts hown hK hP hD hS hA hl fin
  have loop : ∀ (k : Nat) (ls : Array Slot), k ≤ sn s → sr_ld (sR s) k = sr_ld (sR s) (sn s) → lv_has ls 2 [(1, .int (nI k - 1)), (0, .ref b)] → W p l e { frames := 0, cells := 0, slots := 0, locals := 0 } st m [Value.ref b].toArray below meth c st.heap [] 0 0 Q (F0 m 7 ls []) := by
    intro k
    induction k with
    | zero =>
      intro ls hk he hl
      refine lv_iload_n hx hb d_S_latestDecision_7 rfl (lv_at hl 0 rfl) ?_
      refine lv_if_lt (tgt := 27) hx hb d_S_latestDecision_8 rfl (fun hc8 => ?_) (fun hc8 => absurd neg0 hc8)
      refine lv_iload_n hx hb d_S_latestDecision_27 rfl (lv_at hl 0 rfl) ?_
      exact fin _ _ _ _ _ hP hD hS (by rw [← he]; rfl) d_S_latestDecision_28
    | succ k ih =>
      intro ls hk he hl
      rw [nI_pred] at hl
      refine lv_iload_n hx hb d_S_latestDecision_7 rfl (lv_at hl 0 rfl) ?_
      refine lv_if_lt (tgt := 27) hx hb d_S_latestDecision_8 rfl (fun hc8 => absurd hc8 (nI_pos (by omega))) (fun hc8 => ?_)
      refine lv_aload_n hx hb d_S_latestDecision_11 rfl (lv_at hl 1 rfl) ?_
      refine va_get (D := D) (ci := 2) (v := .ref b2) (C := R_S) (T := T_S) (N := 4) hx hb hts u_S hown hK hP 0 rfl rfl 1 (by decide) (hts _ f_S_15) (fun _ h9 => h9) rfl d_S_latestDecision_12 ?_
      refine lv_iload_n hx hb d_S_latestDecision_15 rfl (lv_at hl 0 rfl) ?_
      refine va_iald (D := D) (i := (nI k)) hx hb hK hP 2 0 rfl rfl (vp_in_nI (show k < 10 by omega) (by decide)) d_S_latestDecision_16 ?_
      rw [show ((nI k) : Int32).toNatClampNeg = k from nI_clamp (by omega)]
      refine lv_iconst (v := (-1)) hx hb d_S_latestDecision_17 (by decide) ?_
      refine lv_icmp_eq (tgt := 27) hx hb d_S_latestDecision_18 rfl (fun hc18 => ?_) (fun hc18 => ?_)
      · refine lv_iload_n hx hb d_S_latestDecision_27 rfl (lv_at hl 0 rfl) ?_
        exact fin _ _ _ _ _ hP hD hS (by rw [← he, show sr_ld (sR s) (k + 1) = k + 1 from if_pos hc18, nI_pred]) d_S_latestDecision_28
      · refine lv_iinc (k := 0) (v := (nI k - 1)) (lv' := [(1, .int (nI k - 1)), (0, .ref b)]) hx hb d_S_latestDecision_21 hl rfl (im1 _) (by decide) rfl (fun ls hl => ?_)
        refine lv_goto (tgt := 7) hx hb d_S_latestDecision_24 rfl ?_
        exact ih ls (by omega) (by rw [← he]; exact (if_neg hc18).symm) hl
  refine lv_aload_n hx hb d_S_latestDecision_0 rfl (lv_at hl 0 rfl) ?_
  refine va_get (D := D) (ci := 2) (v := .int (nI (sn s))) (C := R_S) (T := T_S) (N := 4) hx hb hts u_S hown hK hP 0 rfl rfl 2 (by decide) (hts _ f_S_18) (fun _ h9 => h9) rfl d_S_latestDecision_1 ?_
  refine lv_iconst (v := 1) hx hb d_S_latestDecision_4 (by decide) ?_
  refine lv_isub hx hb d_S_latestDecision_5 ?_
  refine lv_istore_n (lv' := [(1, .int ((nI (sn s)) - 1)), (0, .ref b)]) hx hb d_S_latestDecision_6 rfl hl (by decide) rfl (fun ls hl => ?_)
  exact loop (sn s) ls (Nat.le_refl _) rfl hl
set_option maxHeartbeats 4000000 in
set_option maxRecDepth 100000 in
theorem k_S_deniedFrom (l : Launch) (D : va_G) (cI : ClassId) (b b1 b2 : Nat) (s : SS) (hs : sn s ≤ 10) (x : Int32) (q : Nat) (hq : q ≤ sn s) (hx9 : x = nI q - 1) : KTi l y_S_deniedFrom c_S_deniedFrom 4 .int { frames := 1, cells := 0, slots := 0, locals := 22 } D [(cI, .int)] [.ref b, .int x] (wS cI b b1 b2 s) (cc_neg (sr_or (sT s) (sn s - (q - 1)) (q - 1) 0)) (wS cI b b1 b2 s) := by
  refine KTi_of (own := R_S) (by decide +kernel) rfl (Nat.le_of_ble_eq_true rfl) (vp_nar_int _) ?_
  intro p e st m below meth c A ls Q hx hb hml hts hown hK hP hD hS hA hl fin
  generalize hT : sr_or (sT s) (sn s - (q - 1)) (q - 1) 0 = tot at fin
  have loop : ∀ (k a : Nat) (y : Int32) (ls : Array Slot), a + k = sn s → sr_or (sT s) k a y = tot → lv_has ls 4 [(3, .int (nI a)), (2, .int y), (0, .ref b), (1, .int x)] → W p l e { frames := 1, cells := 0, slots := 0, locals := 22 } st m [Value.ref b, Value.int x].toArray below meth c st.heap [] 0 0 Q (F0 m 8 ls []) := by
    intro k
    induction k with
    | zero =>
      intro a y ls hk he hl
      refine lv_iload_n hx hb d_S_deniedFrom_8 rfl (lv_at hl 0 rfl) ?_
      refine lv_aload_n hx hb d_S_deniedFrom_9 rfl (lv_at hl 2 rfl) ?_
      refine va_get (D := D) (ci := 2) (v := .int (nI (sn s))) (C := R_S) (T := T_S) (N := 4) hx hb hts u_S hown hK hP 0 rfl rfl 2 (by decide) (hts _ f_S_18) (fun _ h9 => h9) rfl d_S_deniedFrom_10 ?_
      refine lv_icmp_ge (tgt := 31) hx hb d_S_deniedFrom_13 rfl (fun hc13 => ?_) (fun hc13 => absurd (nI_le (by omega) (by omega)) hc13)
      refine lv_iload_n hx hb d_S_deniedFrom_31 rfl (lv_at hl 1 rfl) ?_
      refine CTi_S (isC := []) (isR := [0, 1, 2]) (wr := [(b, .inr (2, [.ref b1, .ref b2, .int (nI (sn s)), .int (sh s)])), (b1, .inl (cI, 10, .inl (sT s))), (b2, .inl (cI, 10, .inl (sR s)))]) (wi := []) (wo := []) (As := [.int y]) (rest := []) ⟨hx, hb, hml, hown, hts⟩ [] (k_L_opposite l D (y)) (va_cwS 1 hts v_S_51 rfl rfl rfl (by decide +kernel) ⟨Nat.le_of_ble_eq_true rfl, Nat.le_of_ble_eq_true rfl⟩) ⟨rfl, rfl, rfl, rfl, by decide⟩ rfl hK hP hD hS hA rfl hl.1 (Nat.le_of_ble_eq_true rfl) d_S_deniedFrom_32 ⟨Nat.le_of_ble_eq_true rfl, Nat.le_of_ble_eq_true rfl⟩ (fun H locs hP hD hS => ?_)
      have hP : va_P D cls_ [(b, .inr (2, [.ref b1, .ref b2, .int (nI (sn s)), .int (sh s)])), (b1, .inl (cI, 10, .inl (sT s))), (b2, .inl (cI, 10, .inl (sR s)))] H := hP
      have hD : va_D A [(b, .inr (2, [.ref b1, .ref b2, .int (nI (sn s)), .int (sh s)])), (b1, .inl (cI, 10, .inl (sT s))), (b2, .inl (cI, 10, .inl (sR s)))] := hD
      exact fin _ _ _ _ _ hP hD hS (by rw [← he]; rfl) d_S_deniedFrom_35
    | succ k ih =>
      intro a y ls hk he hl
      refine lv_iload_n hx hb d_S_deniedFrom_8 rfl (lv_at hl 0 rfl) ?_
      refine lv_aload_n hx hb d_S_deniedFrom_9 rfl (lv_at hl 2 rfl) ?_
      refine va_get (D := D) (ci := 2) (v := .int (nI (sn s))) (C := R_S) (T := T_S) (N := 4) hx hb hts u_S hown hK hP 0 rfl rfl 2 (by decide) (hts _ f_S_18) (fun _ h9 => h9) rfl d_S_deniedFrom_10 ?_
      refine lv_icmp_ge (tgt := 31) hx hb d_S_deniedFrom_13 rfl (fun hc13 => absurd hc13 (nI_ge (by omega) (by omega))) (fun hc13 => ?_)
      refine lv_iload_n hx hb d_S_deniedFrom_16 rfl (lv_at hl 1 rfl) ?_
      refine lv_aload_n hx hb d_S_deniedFrom_17 rfl (lv_at hl 2 rfl) ?_
      refine va_get (D := D) (ci := 2) (v := .ref b1) (C := R_S) (T := T_S) (N := 4) hx hb hts u_S hown hK hP 0 rfl rfl 0 (by decide) (hts _ f_S_9) (fun _ h9 => h9) rfl d_S_deniedFrom_18 ?_
      refine lv_iload_n hx hb d_S_deniedFrom_21 rfl (lv_at hl 0 rfl) ?_
      refine va_iald (D := D) (i := (nI a)) hx hb hK hP 1 0 rfl rfl (vp_in_nI (show a < 10 by omega) (by decide)) d_S_deniedFrom_22 ?_
      rw [show ((nI a) : Int32).toNatClampNeg = a from nI_clamp (by omega)]
      refine lv_ior hx hb d_S_deniedFrom_23 ?_
      refine lv_istore_n (lv' := [(2, .int (y ||| (sT s a))), (3, .int (nI a)), (0, .ref b), (1, .int x)]) hx hb d_S_deniedFrom_24 rfl hl (by decide) rfl (fun ls hl => ?_)
      refine lv_iinc (k := 1) (v := (nI (a + 1))) (lv' := [(3, .int (nI (a + 1))), (2, .int (y ||| (sT s a))), (0, .ref b), (1, .int x)]) hx hb d_S_deniedFrom_25 hl rfl (nI_1 a) (by decide) rfl (fun ls hl => ?_)
      refine lv_goto (tgt := 8) hx hb d_S_deniedFrom_28 rfl ?_
      exact ih (a + 1) _ ls (by omega) he (lv_sub hl [0, 1, 2, 3] rfl)
  refine lv_iconst (v := 0) hx hb d_S_deniedFrom_0 (by decide) ?_
  refine lv_istore_n (lv' := [(2, .int 0), (0, .ref b), (1, .int x)]) hx hb d_S_deniedFrom_1 rfl hl (by decide) rfl (fun ls hl => ?_)
  refine lv_iload_n hx hb d_S_deniedFrom_2 rfl (lv_at hl 2 rfl) ?_
  refine lv_iconst (v := 0) hx hb d_S_deniedFrom_3 (by decide) ?_
  refine va_mmax (x := x) (y := 0) hx hb (hml.trans hl.1.symm) hown (hts _ g_S_86) (hts _ g_max_s) (hts _ g_math_i) (hts _ g_max_c) (Nat.le_of_ble_eq_true rfl) (Nat.le_of_ble_eq_true rfl) (Nat.le_of_ble_eq_true rfl) (Nat.le_of_ble_eq_true rfl) d_S_deniedFrom_4 ?_
  subst hx9
  rw [max0 (show q < 2 ^ 31 by omega)]
  refine lv_istore_n (lv' := [(3, .int (nI (q - 1))), (2, .int 0), (0, .ref b), (1, .int (nI q - 1))]) hx hb d_S_deniedFrom_7 rfl hl (by decide) rfl (fun ls hl => ?_)
  exact loop (sn s - (q - 1)) (q - 1) 0 ls (by omega) hT (lv_sub hl [0, 1, 2, 3] rfl)
set_option maxHeartbeats 4000000 in
set_option maxRecDepth 100000 in
theorem k_S_jumpTarget (l : Launch) (D : va_G) (cI : ClassId) (b b1 b2 : Nat) (s : SS) (hs : sn s ≤ 10) (y x : Int32) (q : Nat) (hq : q ≤ sn s) (hx9 : x = nI q - 1) : KTi l y_S_jumpTarget c_S_jumpTarget 5 .int { frames := 1, cells := 0, slots := 0, locals := 22 } D [(cI, .int)] [.ref b, .int y, .int x] (wS cI b b1 b2 s) (nI (sr_jump (sT s) (sR s) y (q - 1) (q - 1))) (wS cI b b1 b2 s) := by
  refine KTi_of (own := R_S) (by decide +kernel) rfl (Nat.le_of_ble_eq_true rfl) (vp_nar_int _) ?_
  intro p e st m below meth c A ls Q hx hb hml hts hown hK hP hD hS hA hl fin
  generalize hT : sr_jump (sT s) (sR s) y (q - 1) (q - 1) = tot at fin
  have loop : ∀ (k g : Nat) (ls : Array Slot) (H : Heap) (locs : List Loc), k ≤ sn s → sr_jump (sT s) (sR s) y k g = tot → va_P D cls_ [(b, .inr (2, [.ref b1, .ref b2, .int (nI (sn s)), .int (sh s)])), (b1, .inl (cI, 10, .inl (sT s))), (b2, .inl (cI, 10, .inl (sR s)))] H → va_D A [(b, .inr (2, [.ref b1, .ref b2, .int (nI (sn s)), .int (sh s)])), (b1, .inl (cI, 10, .inl (sT s))), (b2, .inl (cI, 10, .inl (sR s)))] → va_S A st.heap H locs → lv_has ls 5 [(4, .int (nI k - 1)), (3, .int (nI g)), (0, .ref b), (1, .int y)] → W p l e { frames := 1, cells := 0, slots := 0, locals := 22 } st m [Value.ref b, Value.int y, Value.int x].toArray below meth c H locs 0 0 Q (F0 m 11 ls []) := by
    intro k
    induction k with
    | zero =>
      intro g ls H locs hk he hP hD hS hl
      refine lv_iload hx hb d_S_jumpTarget_11 (lv_at hl 0 rfl) ?_
      refine lv_if_lt (tgt := 54) hx hb d_S_jumpTarget_13 rfl (fun hc13 => ?_) (fun hc13 => absurd neg0 hc13)
      refine lv_iload_n hx hb d_S_jumpTarget_54 rfl (lv_at hl 1 rfl) ?_
      exact fin _ _ _ _ _ hP hD hS (by rw [← he]; rfl) d_S_jumpTarget_55
    | succ k ih =>
      intro g ls H locs hk he hP hD hS hl
      rw [nI_pred] at hl
      refine lv_iload hx hb d_S_jumpTarget_11 (lv_at hl 0 rfl) ?_
      refine lv_if_lt (tgt := 54) hx hb d_S_jumpTarget_13 rfl (fun hc13 => absurd hc13 (nI_pos (by omega))) (fun hc13 => ?_)
      refine lv_iload_n hx hb d_S_jumpTarget_16 rfl (lv_at hl 3 rfl) ?_
      refine lv_aload_n hx hb d_S_jumpTarget_17 rfl (lv_at hl 2 rfl) ?_
      refine va_get (D := D) (ci := 2) (v := .ref b1) (C := R_S) (T := T_S) (N := 4) hx hb hts u_S hown hK hP 0 rfl rfl 0 (by decide) (hts _ f_S_9) (fun _ h9 => h9) rfl d_S_jumpTarget_18 ?_
      refine lv_iload hx hb d_S_jumpTarget_21 (lv_at hl 0 rfl) ?_
      refine va_iald (D := D) (i := (nI k)) hx hb hK hP 1 0 rfl rfl (vp_in_nI (show k < 10 by omega) (by decide)) d_S_jumpTarget_23 ?_
      rw [show ((nI k) : Int32).toNatClampNeg = k from nI_clamp (by omega)]
      refine CTi_S (isC := []) (isR := [0, 1, 2]) (wr := [(b, .inr (2, [.ref b1, .ref b2, .int (nI (sn s)), .int (sh s)])), (b1, .inl (cI, 10, .inl (sT s))), (b2, .inl (cI, 10, .inl (sR s)))]) (wi := []) (wo := []) (As := [.int (sT s k)]) (rest := [.int y]) ⟨hx, hb, hml, hown, hts⟩ [] (k_L_opposite l D ((sT s k))) (va_cwS 1 hts v_S_51 rfl rfl rfl (by decide +kernel) ⟨Nat.le_of_ble_eq_true rfl, Nat.le_of_ble_eq_true rfl⟩) ⟨rfl, rfl, rfl, rfl, by decide⟩ rfl hK hP hD hS hA rfl hl.1 (Nat.le_of_ble_eq_true rfl) d_S_jumpTarget_24 ⟨Nat.le_of_ble_eq_true rfl, Nat.le_of_ble_eq_true rfl⟩ (fun H locs hP hD hS => ?_)
      have hP : va_P D cls_ [(b, .inr (2, [.ref b1, .ref b2, .int (nI (sn s)), .int (sh s)])), (b1, .inl (cI, 10, .inl (sT s))), (b2, .inl (cI, 10, .inl (sR s)))] H := hP
      have hD : va_D A [(b, .inr (2, [.ref b1, .ref b2, .int (nI (sn s)), .int (sh s)])), (b1, .inl (cI, 10, .inl (sT s))), (b2, .inl (cI, 10, .inl (sR s)))] := hD
      refine lv_iand hx hb d_S_jumpTarget_27 ?_
      refine lv_if_eq (tgt := 34) hx hb d_S_jumpTarget_28 rfl (fun hc28 => ?_) (fun hc28 => ?_)
      · refine lv_aload_n hx hb d_S_jumpTarget_34 rfl (lv_at hl 2 rfl) ?_
        refine va_get (D := D) (ci := 2) (v := .ref b2) (C := R_S) (T := T_S) (N := 4) hx hb hts u_S hown hK hP 0 rfl rfl 1 (by decide) (hts _ f_S_15) (fun _ h9 => h9) rfl d_S_jumpTarget_35 ?_
        refine lv_iload hx hb d_S_jumpTarget_38 (lv_at hl 0 rfl) ?_
        refine va_iald (D := D) (i := (nI k)) hx hb hK hP 2 0 rfl rfl (vp_in_nI (show k < 10 by omega) (by decide)) d_S_jumpTarget_40 ?_
        rw [show ((nI k) : Int32).toNatClampNeg = k from nI_clamp (by omega)]
        refine lv_iconst (v := (-1)) hx hb d_S_jumpTarget_41 (by decide) ?_
        refine lv_icmp_ne (tgt := 48) hx hb d_S_jumpTarget_42 rfl (fun hc42 => ?_) (fun hc42 => ?_)
        · refine lv_iinc (k := 0) (v := (nI k - 1)) (lv' := [(4, .int (nI k - 1)), (3, .int (nI g)), (0, .ref b), (1, .int y)]) hx hb d_S_jumpTarget_48 hl rfl (im1 _) (by decide) rfl (fun ls hl => ?_)
          refine lv_goto (tgt := 11) hx hb d_S_jumpTarget_51 rfl ?_
          exact ih g ls H locs (by omega) (by rw [← he, sr_jump_s, if_pos hc28, if_neg hc42]) hP hD hS (lv_sub hl [0, 1, 2, 3] rfl)
        · refine lv_iload hx hb d_S_jumpTarget_45 (lv_at hl 0 rfl) ?_
          refine lv_istore_n (lv' := [(3, .int (nI k)), (4, .int (nI k)), (0, .ref b), (1, .int y)]) hx hb d_S_jumpTarget_47 rfl hl (by decide) rfl (fun ls hl => ?_)
          refine lv_iinc (k := 1) (v := (nI k - 1)) (lv' := [(4, .int (nI k - 1)), (3, .int (nI k)), (0, .ref b), (1, .int y)]) hx hb d_S_jumpTarget_48 hl rfl (im1 _) (by decide) rfl (fun ls hl => ?_)
          refine lv_goto (tgt := 11) hx hb d_S_jumpTarget_51 rfl ?_
          exact ih k ls H locs (by omega) (by rw [← he, sr_jump_s, if_pos hc28, if_pos hc42]) hP hD hS (lv_sub hl [0, 1, 2, 3] rfl)
      · refine lv_goto (tgt := 54) hx hb d_S_jumpTarget_31 rfl ?_
        refine lv_iload_n hx hb d_S_jumpTarget_54 rfl (lv_at hl 1 rfl) ?_
        exact fin _ _ _ _ _ hP hD hS (by rw [← he, sr_jump_s, if_neg hc28]) d_S_jumpTarget_55
  refine lv_iload_n hx hb d_S_jumpTarget_0 rfl (lv_at hl 2 rfl) ?_
  refine lv_iconst (v := 0) hx hb d_S_jumpTarget_1 (by decide) ?_
  refine va_mmax (x := x) (y := 0) hx hb (hml.trans hl.1.symm) hown (hts _ g_S_86) (hts _ g_max_s) (hts _ g_math_i) (hts _ g_max_c) (Nat.le_of_ble_eq_true rfl) (Nat.le_of_ble_eq_true rfl) (Nat.le_of_ble_eq_true rfl) (Nat.le_of_ble_eq_true rfl) d_S_jumpTarget_2 ?_
  subst hx9
  rw [max0 (show q < 2 ^ 31 by omega)]
  refine lv_istore_n (lv' := [(3, .int (nI (q - 1))), (0, .ref b), (1, .int y), (2, .int (nI q - 1))]) hx hb d_S_jumpTarget_5 rfl hl (by decide) rfl (fun ls hl => ?_)
  refine lv_iload_n hx hb d_S_jumpTarget_6 rfl (lv_at hl 0 rfl) ?_
  refine lv_iconst (v := 1) hx hb d_S_jumpTarget_7 (by decide) ?_
  refine lv_isub hx hb d_S_jumpTarget_8 ?_
  refine lv_istore (lv' := [(4, .int ((nI (q - 1)) - 1)), (3, .int (nI (q - 1))), (0, .ref b), (1, .int y), (2, .int (nI q - 1))]) hx hb d_S_jumpTarget_9 hl (by decide) rfl (fun ls hl => ?_)
  exact loop (q - 1) (q - 1) ls _ _ (by omega) hT hP hD hS (lv_sub hl [0, 1, 2, 3] rfl)
set_option maxHeartbeats 4000000 in
set_option maxRecDepth 100000 in
theorem k_S_cut (l : Launch) (D : va_G) (cI : ClassId) (b b1 b2 : Nat) (s : SS) (hs : sn s ≤ 10) (x : Int32) (g : Nat) (hg : g ≤ 10) (hx9 : x = nI g) : KTv l y_S_cut c_S_cut 3 { frames := 1, cells := 0, slots := 0, locals := 21 } D [(cI, .int)] [.ref b, .int x] (wS cI b b1 b2 s) (wS cI b b1 b2 (sr_cut s g)) := by
  refine KTv_of (own := R_S) (by decide +kernel) rfl (Nat.le_of_ble_eq_true rfl) ?_
  intro p e st m below meth c A ls Q hx hb hml hts hown hK hP hD hS hA hl fin
  subst hx9
  unfold sr_cut at fin
  generalize hT : sr_cutH (sT s) g (sn s) (sh s) = tot at fin
  have loop : ∀ (k : Nat) (y : Int32) (ls : Array Slot) (H : Heap) (locs : List Loc), k ≤ sn s → sr_cutH (sT s) g k y = tot → va_P D cls_ [(b, .inr (2, [.ref b1, .ref b2, .int (nI (sn s)), .int y])), (b1, .inl (cI, 10, .inl (sT s))), (b2, .inl (cI, 10, .inl (sR s)))] H → va_D A [(b, .inr (2, [.ref b1, .ref b2, .int (nI (sn s)), .int y])), (b1, .inl (cI, 10, .inl (sT s))), (b2, .inl (cI, 10, .inl (sR s)))] → va_S A st.heap H locs → lv_has ls 3 [(2, .int (nI k - 1)), (0, .ref b), (1, .int (nI g))] → W p l e { frames := 1, cells := 0, slots := 0, locals := 21 } st m [Value.ref b, Value.int (nI g)].toArray below meth c H locs 0 0 Q (F0 m 7 ls []) := by
    intro k
    induction k with
    | zero =>
      intro y ls H locs hk he hP hD hS hl
      have he : y = tot := he
      subst he
      refine lv_iload_n hx hb d_S_cut_7 rfl (lv_at hl 0 rfl) ?_
      refine lv_iload_n hx hb d_S_cut_8 rfl (lv_at hl 2 rfl) ?_
      refine lv_icmp_lt (tgt := 39) hx hb d_S_cut_9 rfl (fun hc9 => ?_) (fun hc9 => absurd (neg0g (show g < 2 ^ 31 by omega)) hc9)
      refine lv_aload_n hx hb d_S_cut_39 rfl (lv_at hl 1 rfl) ?_
      refine lv_aload_n hx hb d_S_cut_40 rfl (lv_at hl 1 rfl) ?_
      refine va_get (D := D) (ci := 2) (v := .int (nI (sn s))) (C := R_S) (T := T_S) (N := 4) hx hb hts u_S hown hK hP 0 rfl rfl 2 (by decide) (hts _ f_S_18) (fun _ h9 => h9) rfl d_S_cut_41 ?_
      refine lv_iload_n hx hb d_S_cut_44 rfl (lv_at hl 2 rfl) ?_
      refine va_mmin (x := (nI (sn s))) (y := (nI g)) hx hb (hml.trans hl.1.symm) hown (hts _ g_S_91) (hts _ g_min_s) (hts _ g_math_i) (hts _ g_min_c) (Nat.le_of_ble_eq_true rfl) (Nat.le_of_ble_eq_true rfl) (Nat.le_of_ble_eq_true rfl) (Nat.le_of_ble_eq_true rfl) d_S_cut_45 ?_
      refine va_put (D := D) (ci := 2) (v := .int (if (nI g) < (nI (sn s)) then (nI g) else (nI (sn s)))) (ty := .int) (C := R_S) (T := T_S) (N := 4) hx hb hts u_S t_S t_S_ok n_S hown hK hP hD hS 0 rfl rfl 2 (by decide) (hts _ f_S_18) (fun _ h9 => h9) rfl (by decide +kernel) rfl rfl (Nat.le_of_ble_eq_true rfl) d_S_cut_48 (fun H locs hP hD hS => ?_)
      have hP : va_P D cls_ [(b, .inr (2, [.ref b1, .ref b2, .int (if (nI g) < (nI (sn s)) then (nI g) else (nI (sn s))), .int y])), (b1, .inl (cI, 10, .inl (sT s))), (b2, .inl (cI, 10, .inl (sR s)))] H := hP
      have hD : va_D A [(b, .inr (2, [.ref b1, .ref b2, .int (if (nI g) < (nI (sn s)) then (nI g) else (nI (sn s))), .int y])), (b1, .inl (cI, 10, .inl (sT s))), (b2, .inl (cI, 10, .inl (sR s)))] := hD
      rw [min_eq_ (show sn s < 2 ^ 31 by omega) (show g < 2 ^ 31 by omega)] at hP hD
      exact fin _ _ _ _ hP hD hS d_S_cut_51
    | succ k ih =>
      intro y ls H locs hk he hP hD hS hl
      rw [nI_pred] at hl
      refine lv_iload_n hx hb d_S_cut_7 rfl (lv_at hl 0 rfl) ?_
      refine lv_iload_n hx hb d_S_cut_8 rfl (lv_at hl 2 rfl) ?_
      refine lv_icmp_lt (tgt := 39) hx hb d_S_cut_9 rfl (fun hc9 => ?_) (fun hc9 => ?_)
      · have hkg : k < g := (nI_ltI (by omega) (by omega)).1 hc9
        have he : y = tot := by rw [← he]; exact (if_pos hkg).symm
        subst he
        refine lv_aload_n hx hb d_S_cut_39 rfl (lv_at hl 1 rfl) ?_
        refine lv_aload_n hx hb d_S_cut_40 rfl (lv_at hl 1 rfl) ?_
        refine va_get (D := D) (ci := 2) (v := .int (nI (sn s))) (C := R_S) (T := T_S) (N := 4) hx hb hts u_S hown hK hP 0 rfl rfl 2 (by decide) (hts _ f_S_18) (fun _ h9 => h9) rfl d_S_cut_41 ?_
        refine lv_iload_n hx hb d_S_cut_44 rfl (lv_at hl 2 rfl) ?_
        refine va_mmin (x := (nI (sn s))) (y := (nI g)) hx hb (hml.trans hl.1.symm) hown (hts _ g_S_91) (hts _ g_min_s) (hts _ g_math_i) (hts _ g_min_c) (Nat.le_of_ble_eq_true rfl) (Nat.le_of_ble_eq_true rfl) (Nat.le_of_ble_eq_true rfl) (Nat.le_of_ble_eq_true rfl) d_S_cut_45 ?_
        refine va_put (D := D) (ci := 2) (v := .int (if (nI g) < (nI (sn s)) then (nI g) else (nI (sn s)))) (ty := .int) (C := R_S) (T := T_S) (N := 4) hx hb hts u_S t_S t_S_ok n_S hown hK hP hD hS 0 rfl rfl 2 (by decide) (hts _ f_S_18) (fun _ h9 => h9) rfl (by decide +kernel) rfl rfl (Nat.le_of_ble_eq_true rfl) d_S_cut_48 (fun H locs hP hD hS => ?_)
        have hP : va_P D cls_ [(b, .inr (2, [.ref b1, .ref b2, .int (if (nI g) < (nI (sn s)) then (nI g) else (nI (sn s))), .int y])), (b1, .inl (cI, 10, .inl (sT s))), (b2, .inl (cI, 10, .inl (sR s)))] H := hP
        have hD : va_D A [(b, .inr (2, [.ref b1, .ref b2, .int (if (nI g) < (nI (sn s)) then (nI g) else (nI (sn s))), .int y])), (b1, .inl (cI, 10, .inl (sT s))), (b2, .inl (cI, 10, .inl (sR s)))] := hD
        rw [min_eq_ (show sn s < 2 ^ 31 by omega) (show g < 2 ^ 31 by omega)] at hP hD
        exact fin _ _ _ _ hP hD hS d_S_cut_51
      · have hkg : ¬ k < g := fun h => hc9 (nI_lt h (by omega))
        refine lv_iload_n hx hb d_S_cut_12 rfl (lv_at hl 0 rfl) ?_
        refine lv_if_lt (tgt := 39) hx hb d_S_cut_13 rfl (fun hc13 => absurd hc13 (nI_pos (by omega))) (fun hc13 => ?_)
        refine lv_aload_n hx hb d_S_cut_16 rfl (lv_at hl 1 rfl) ?_
        refine lv_dup hx hb d_S_cut_17 rfl ?_
        refine va_get (D := D) (ci := 2) (v := .int y) (C := R_S) (T := T_S) (N := 4) hx hb hts u_S hown hK hP 0 rfl rfl 3 (by decide) (hts _ f_S_22) (fun _ h9 => h9) rfl d_S_cut_18 ?_
        refine lv_aload_n hx hb d_S_cut_21 rfl (lv_at hl 1 rfl) ?_
        refine va_get (D := D) (ci := 2) (v := .ref b1) (C := R_S) (T := T_S) (N := 4) hx hb hts u_S hown hK hP 0 rfl rfl 0 (by decide) (hts _ f_S_9) (fun _ h9 => h9) rfl d_S_cut_22 ?_
        refine lv_iload_n hx hb d_S_cut_25 rfl (lv_at hl 0 rfl) ?_
        refine va_iald (D := D) (i := (nI k)) hx hb hK hP 1 0 rfl rfl (vp_in_nI (show k < 10 by omega) (by decide)) d_S_cut_26 ?_
        rw [show ((nI k) : Int32).toNatClampNeg = k from nI_clamp (by omega)]
        refine lv_iconst (v := (-1)) hx hb d_S_cut_27 (by decide) ?_
        refine lv_ixor hx hb d_S_cut_28 ?_
        refine lv_iand hx hb d_S_cut_29 ?_
        refine va_put (D := D) (ci := 2) (v := .int (y &&& ((sT s k) ^^^ (-1)))) (ty := .int) (C := R_S) (T := T_S) (N := 4) hx hb hts u_S t_S t_S_ok n_S hown hK hP hD hS 0 rfl rfl 3 (by decide) (hts _ f_S_22) (fun _ h9 => h9) rfl (by decide +kernel) rfl rfl (Nat.le_of_ble_eq_true rfl) d_S_cut_30 (fun H locs hP hD hS => ?_)
        have hP : va_P D cls_ [(b, .inr (2, [.ref b1, .ref b2, .int (nI (sn s)), .int (y &&& ((sT s k) ^^^ (-1)))])), (b1, .inl (cI, 10, .inl (sT s))), (b2, .inl (cI, 10, .inl (sR s)))] H := hP
        have hD : va_D A [(b, .inr (2, [.ref b1, .ref b2, .int (nI (sn s)), .int (y &&& ((sT s k) ^^^ (-1)))])), (b1, .inl (cI, 10, .inl (sT s))), (b2, .inl (cI, 10, .inl (sR s)))] := hD
        refine lv_iinc (k := 0) (v := (nI k - 1)) (lv' := [(2, .int (nI k - 1)), (0, .ref b), (1, .int (nI g))]) hx hb d_S_cut_33 hl rfl (im1 _) (by decide) rfl (fun ls hl => ?_)
        refine lv_goto (tgt := 7) hx hb d_S_cut_36 rfl ?_
        exact ih _ ls H locs (by omega) (by rw [← he]; exact (if_neg hkg).symm) hP hD hS hl
  refine lv_aload_n hx hb d_S_cut_0 rfl (lv_at hl 0 rfl) ?_
  refine va_get (D := D) (ci := 2) (v := .int (nI (sn s))) (C := R_S) (T := T_S) (N := 4) hx hb hts u_S hown hK hP 0 rfl rfl 2 (by decide) (hts _ f_S_18) (fun _ h9 => h9) rfl d_S_cut_1 ?_
  refine lv_iconst (v := 1) hx hb d_S_cut_4 (by decide) ?_
  refine lv_isub hx hb d_S_cut_5 ?_
  refine lv_istore_n (lv' := [(2, .int ((nI (sn s)) - 1)), (0, .ref b), (1, .int (nI g))]) hx hb d_S_cut_6 rfl hl (by decide) rfl (fun ls hl => ?_)
  exact loop (sn s) (sh s) ls st.heap [] (Nat.le_refl _) hT hP hD hS hl
end
section
/-! Part 32: Search, its large methods, by program (wip/whole/gen_search2.py) -/
theorem sr_sweep_s (C : Nat → Int32) (k i : Nat) (s : SS) : sr_sweep C (k + 1) i s = if C i &&& sh s = 0 then if cc_open (C i) (sh s) = 0 then (nI i, s) else if cc_singleB (cc_open (C i) (sh s)) = true then sr_sweep C k (i + 1) (sr_hold s (cc_open (C i) (sh s)) (nI i)) else sr_sweep C k (i + 1) s else sr_sweep C k (i + 1) s := rfl
theorem sr_prop_s (C : Nat → Int32) (z r : Nat) (s : SS) : sr_prop C z (r + 1) s = if (sr_sweep C z 0 s).1 ≠ -1 then sr_sweep C z 0 s else if sn s < sn (sr_sweep C z 0 s).2 then sr_prop C z r (sr_sweep C z 0 s).2 else sr_sweep C z 0 s := rfl
theorem sr_res_s (T R : Nat → Int32) (ld : Nat) (la : Int32) (k : Nat) (x : Int32) (d : DS) : sr_res T R ld la (k + 1) x d = if k < ld then (x, d) else if ld ≠ 0 ∧ cc_singleB (x &&& la) = true then (x, d) else if x &&& cc_neg (T k) = 0 then sr_res T R ld la k x d else sr_res T R ld la k ((x &&& (cc_neg (T k) ^^^ (-1))) ||| (dk_cl d (R k) &&& (T k ^^^ (-1)))) (dk_link d (R k)) := rfl
theorem sr_find_s (n f : Nat) (d : DS) (s : SS) : sr_find n (f + 1) d s = if (sr_prop (dC d) (dz d) 11 s).1 = -1 then if n ≤ sn (sr_prop (dC d) (dz d) 11 s).2 then (true, d, (sr_prop (dC d) (dz d) 11 s).2) else sr_find n f d (sr_decide n (sr_prop (dC d) (dz d) 11 s).2) else if (sr_learn d (sr_prop (dC d) (dz d) 11 s).2 (sr_prop (dC d) (dz d) 11 s).1).1 = 0 then (false, (sr_learn d (sr_prop (dC d) (dz d) 11 s).2 (sr_prop (dC d) (dz d) 11 s).1).2.1, (sr_learn d (sr_prop (dC d) (dz d) 11 s).2 (sr_prop (dC d) (dz d) 11 s).1).2.2) else sr_find n f (sr_learn d (sr_prop (dC d) (dz d) 11 s).2 (sr_prop (dC d) (dz d) 11 s).1).2.1 (sr_learn d (sr_prop (dC d) (dz d) 11 s).2 (sr_prop (dC d) (dz d) 11 s).1).2.2 := rfl
theorem hold_le {s : SS} (h : sn s ≤ 10) {x r : Int32} : sn (sr_hold s x r) ≤ 10 := by
  unfold sr_hold
  split
  · show sn s + 1 ≤ 10
    omega
  · exact h
theorem decide_le {n : Nat} {s : SS} (h : sn s ≤ 10) : sn (sr_decide n s) ≤ 10 := hold_le h
theorem sweep_le {C : Nat → Int32} : ∀ (k i : Nat) {s : SS}, sn s ≤ 10 → sn (sr_sweep C k i s).2 ≤ 10 := by
  intro k
  induction k with
  | zero => intro i s h; exact h
  | succ k ih =>
    intro i s h
    rw [sr_sweep_s]
    split
    · split
      · exact h
      · split
        · exact ih _ (hold_le h)
        · exact ih _ h
    · exact ih _ h
theorem prop_le {C : Nat → Int32} {z : Nat} : ∀ (r : Nat) {s : SS}, sn s ≤ 10 → sn (sr_prop C z r s).2 ≤ 10 := by
  intro r
  induction r with
  | zero => intro s h; exact h
  | succ r ih =>
    intro s h
    rw [sr_prop_s]
    split
    · exact sweep_le _ _ h
    · split
      · exact ih (sweep_le _ _ h)
      · exact sweep_le _ _ h
theorem jump_le {T R : Nat → Int32} {x : Int32} : ∀ {k t : Nat}, k ≤ 10 → t ≤ 10 → sr_jump T R x k t ≤ 10 := by
  intro k
  induction k with
  | zero => intro t _ h; exact h
  | succ k ih =>
    intro t h1 h2
    rw [sr_jump_s]
    split
    · split
      · exact ih (by omega) (by omega)
      · exact ih (by omega) h2
    · exact h2
theorem learn_le (d : DS) {s : SS} (h : sn s ≤ 10) {x : Int32} : sn (sr_learn d s x).2.2 ≤ 10 := by
  show (if sn s ≤ _ then sn s else _) ≤ 10
  split
  · exact h
  · omega
theorem DW_link {d : DS} (h : DW d) {x : Int32} : DW (dk_link d x) := by
  unfold dk_link
  split
  · exact ⟨h.1, by show dl d + 1 ≤ 3060; omega⟩
  · exact h
theorem DW_append {d : DS} (h : DW d) {x f t : Int32} : DW (dk_append d x f t) := by
  unfold dk_append
  split
  · exact ⟨by show dz d + 1 ≤ 1575; omega, h.2⟩
  · exact h
theorem DW_derive {d : DS} (h : DW d) {x : Int32} : DW (dk_derive d x) := ⟨(DW_append h).1, (DW_append h).2⟩
theorem DW_res {T R : Nat → Int32} {ld : Nat} {la : Int32} : ∀ (k : Nat) {x : Int32} {d : DS}, DW d → DW (sr_res T R ld la k x d).2 := by
  intro k
  induction k with
  | zero => intro x d h; exact h
  | succ k ih =>
    intro x d h
    rw [sr_res_s]
    split
    · exact h
    · split
      · exact h
      · split
        · exact ih h
        · exact ih (DW_link h)
theorem DW_learn {d : DS} (h : DW d) {s : SS} {x : Int32} : DW (sr_learn d s x).2.1 := DW_derive (DW_res _ (DW_link h))
theorem le_dec {k q : Nat} (hk : k < 2 ^ 31) (hq : q < 2 ^ 31) : nI k ≤ nI q - 1 ↔ k < q := by
  rw [Int32.le_iff_toInt_le, nI_toInt hk]
  cases q with
  | zero => rw [show (nI 0 - 1).toInt = -1 from by decide +kernel]; omega
  | succ q => rw [nI_pred, nI_toInt (by omega)]; omega
theorem le_dec0 {q : Nat} (hq : q < 2 ^ 31) : nI 0 - 1 ≤ nI q - 1 := by
  rw [Int32.le_iff_toInt_le, show (nI 0 - 1).toInt = -1 from by decide +kernel]
  cases q with
  | zero => rw [show (nI 0 - 1).toInt = -1 from by decide +kernel]; omega
  | succ q => rw [nI_pred, nI_toInt (by omega)]; omega
theorem dec_m1 {q : Nat} (hq : q < 2 ^ 31) : nI q - 1 = -1 ↔ q = 0 := by
  cases q with
  | zero => exact ⟨fun _ => rfl, fun _ => by decide +kernel⟩
  | succ q => rw [nI_pred]; exact ⟨fun h => absurd h (nI_nm1 (by omega)), fun h => absurd h (by omega)⟩
set_option maxHeartbeats 4000000 in
set_option maxRecDepth 100000 in
theorem k_S_sweep (l : Launch) (D : va_G) (cI : ClassId) (b b1 b2 h a1 a2 a3 a4 : Nat) (s : SS) (hs : sn s ≤ 10) (d : DS) (hd : DW d) : KTi l y_S_sweep c_S_sweep 6 .int { frames := 2, cells := 0, slots := 0, locals := 42 } D [(cI, .int)] [.ref b, .ref h] (wX cI b b1 b2 h a1 a2 a3 a4 s d) ((sr_sweep (dC d) (dz d) 0 s).1) (wX cI b b1 b2 h a1 a2 a3 a4 (sr_sweep (dC d) (dz d) 0 s).2 d) := by
  refine KTi_of (own := R_S) (by decide +kernel) rfl (Nat.le_of_ble_eq_true rfl) (vp_nar_int _) ?_
  intro p e st m below meth c A ls Q hx hb hml hts hown hK hP hD hS hA hl fin
  have hz31 : dz d < 2 ^ 31 := by have := hd.1; omega
  generalize hT : sr_sweep (dC d) (dz d) 0 s = res at fin
  have loop : ∀ (k i : Nat) (v : SS) (ls : Array Slot) (H : Heap) (locs : List Loc), i + k = dz d → sn v ≤ 10 → sr_sweep (dC d) k i v = res → va_P D cls_ [(b, .inr (2, [.ref b1, .ref b2, .int (nI (sn v)), .int (sh v)])), (b1, .inl (cI, 10, .inl (sT v))), (b2, .inl (cI, 10, .inl (sR v))), (h, .inr (1, [.ref a1, .ref a2, .ref a3, .ref a4, .int (nI (dz d)), .int (nI (dl d)), .int (nI (dO d))])), (a1, .inl (cI, 1575, .inl (dC d))), (a2, .inl (cI, 1575, .inl (dF d))), (a3, .inl (cI, 1575, .inl (dT d))), (a4, .inl (cI, 3060, .inl (dK d)))] H → va_D A [(b, .inr (2, [.ref b1, .ref b2, .int (nI (sn v)), .int (sh v)])), (b1, .inl (cI, 10, .inl (sT v))), (b2, .inl (cI, 10, .inl (sR v))), (h, .inr (1, [.ref a1, .ref a2, .ref a3, .ref a4, .int (nI (dz d)), .int (nI (dl d)), .int (nI (dO d))])), (a1, .inl (cI, 1575, .inl (dC d))), (a2, .inl (cI, 1575, .inl (dF d))), (a3, .inl (cI, 1575, .inl (dT d))), (a4, .inl (cI, 3060, .inl (dK d)))] → va_S A st.heap H locs → lv_has ls 6 [(3, .int (nI i)), (2, .int (nI (dz d))), (0, .ref b), (1, .ref h)] → W p l e { frames := 2, cells := 0, slots := 0, locals := 42 } st m [Value.ref b, Value.ref h].toArray below meth c H locs 0 0 Q (F0 m 7 ls []) := by
    intro k
    induction k with
    | zero =>
      intro i v ls H locs hi hv he hP hD hS hl
      have he : ((-1 : Int32), v) = res := he
      subst he
      refine lv_iload_n hx hb d_S_sweep_7 rfl (lv_at hl 0 rfl) ?_
      refine lv_iload_n hx hb d_S_sweep_8 rfl (lv_at hl 1 rfl) ?_
      refine lv_icmp_ge (tgt := 71) hx hb d_S_sweep_9 rfl (fun hc9 => ?_) (fun hc9 => absurd (nI_le (by omega) (by omega)) hc9)
      refine lv_iconst (v := (-1)) hx hb d_S_sweep_71 (by decide) ?_
      exact fin _ _ _ _ _ hP hD hS (rfl) d_S_sweep_72
    | succ k ih =>
      intro i v ls H locs hi hv he hP hD hS hl
      refine lv_iload_n hx hb d_S_sweep_7 rfl (lv_at hl 0 rfl) ?_
      refine lv_iload_n hx hb d_S_sweep_8 rfl (lv_at hl 1 rfl) ?_
      refine lv_icmp_ge (tgt := 71) hx hb d_S_sweep_9 rfl (fun hc9 => absurd hc9 (nI_ge (by omega) (by omega))) (fun hc9 => ?_)
      refine lv_aload_n hx hb d_S_sweep_12 rfl (lv_at hl 3 rfl) ?_
      refine lv_iload_n hx hb d_S_sweep_13 rfl (lv_at hl 0 rfl) ?_
      refine CTi_V (isC := [3, 4, 5, 6, 7]) (isR := [0, 1, 2]) (wr := [(b, .inr (2, [.ref b1, .ref b2, .int (nI (sn v)), .int (sh v)])), (b1, .inl (cI, 10, .inl (sT v))), (b2, .inl (cI, 10, .inl (sR v)))]) (wi := [(h, .inr (1, [.ref a1, .ref a2, .ref a3, .ref a4, .int (nI (dz d)), .int (nI (dl d)), .int (nI (dO d))])), (a1, .inl (cI, 1575, .inl (dC d))), (a2, .inl (cI, 1575, .inl (dF d))), (a3, .inl (cI, 1575, .inl (dT d))), (a4, .inl (cI, 3060, .inl (dK d)))]) (wo := [(h, .inr (1, [.ref a1, .ref a2, .ref a3, .ref a4, .int (nI (dz d)), .int (nI (dl d)), .int (nI (dO d))])), (a1, .inl (cI, 1575, .inl (dC d))), (a2, .inl (cI, 1575, .inl (dF d))), (a3, .inl (cI, 1575, .inl (dT d))), (a4, .inl (cI, 3060, .inl (dK d)))]) (b := h) (As := [.int (nI i)]) (rest := []) ⟨hx, hb, hml, hown, hts⟩ [0] (k_D_clause l D cI h a1 a2 a3 a4 d hd ((nI i))) (cwV 1 hts v_S_47 rfl rfl rfl (by decide +kernel) ⟨Nat.le_of_ble_eq_true rfl, Nat.le_of_ble_eq_true rfl⟩) ⟨rfl, rfl, rfl, rfl, by decide⟩ rfl hK hP hD hS hA (va_recv (ci := 1) hK hP rfl (q0 := 3) rfl) rfl hl.1 (Nat.le_of_ble_eq_true rfl) d_S_sweep_14 ⟨Nat.le_of_ble_eq_true rfl, Nat.le_of_ble_eq_true rfl⟩ (fun H locs hP hD hS => ?_)
      have hP : va_P D cls_ [(b, .inr (2, [.ref b1, .ref b2, .int (nI (sn v)), .int (sh v)])), (b1, .inl (cI, 10, .inl (sT v))), (b2, .inl (cI, 10, .inl (sR v))), (h, .inr (1, [.ref a1, .ref a2, .ref a3, .ref a4, .int (nI (dz d)), .int (nI (dl d)), .int (nI (dO d))])), (a1, .inl (cI, 1575, .inl (dC d))), (a2, .inl (cI, 1575, .inl (dF d))), (a3, .inl (cI, 1575, .inl (dT d))), (a4, .inl (cI, 3060, .inl (dK d)))] H := hP
      have hD : va_D A [(b, .inr (2, [.ref b1, .ref b2, .int (nI (sn v)), .int (sh v)])), (b1, .inl (cI, 10, .inl (sT v))), (b2, .inl (cI, 10, .inl (sR v))), (h, .inr (1, [.ref a1, .ref a2, .ref a3, .ref a4, .int (nI (dz d)), .int (nI (dl d)), .int (nI (dO d))])), (a1, .inl (cI, 1575, .inl (dC d))), (a2, .inl (cI, 1575, .inl (dF d))), (a3, .inl (cI, 1575, .inl (dT d))), (a4, .inl (cI, 3060, .inl (dK d)))] := hD
      rw [dk_cl_at (d := d) (i := i) (by omega) hz31]
      refine lv_istore (lv' := [(4, .int (dC d i)), (3, .int (nI i)), (2, .int (nI (dz d))), (0, .ref b), (1, .ref h)]) hx hb d_S_sweep_17 hl (by decide) rfl (fun ls hl => ?_)
      refine lv_iload hx hb d_S_sweep_19 (lv_at hl 0 rfl) ?_
      refine lv_aload_n hx hb d_S_sweep_21 rfl (lv_at hl 3 rfl) ?_
      refine va_get (D := D) (ci := 2) (v := .int (sh v)) (C := R_S) (T := T_S) (N := 4) hx hb hts u_S hown hK hP 0 rfl rfl 3 (by decide) (hts _ f_S_22) (fun _ h9 => h9) rfl d_S_sweep_22 ?_
      refine lv_iand hx hb d_S_sweep_25 ?_
      refine lv_if_ne (tgt := 65) hx hb d_S_sweep_26 rfl (fun hc26 => ?_) (fun hc26 => ?_)
      · refine lv_iinc (k := 1) (v := (nI (i + 1))) (lv' := [(3, .int (nI (i + 1))), (4, .int (dC d i)), (2, .int (nI (dz d))), (0, .ref b), (1, .ref h)]) hx hb d_S_sweep_65 hl rfl (nI_1 i) (by decide) rfl (fun ls hl => ?_)
        refine lv_goto (tgt := 7) hx hb d_S_sweep_68 rfl ?_
        exact ih (i + 1) v ls H locs (by omega) hv (by rw [← he, sr_sweep_s, if_neg hc26]) hP hD hS (lv_sub hl [0, 2, 3, 4] rfl)
      · refine lv_iload hx hb d_S_sweep_29 (lv_at hl 0 rfl) ?_
        refine lv_aload_n hx hb d_S_sweep_31 rfl (lv_at hl 3 rfl) ?_
        refine va_get (D := D) (ci := 2) (v := .int (sh v)) (C := R_S) (T := T_S) (N := 4) hx hb hts u_S hown hK hP 0 rfl rfl 3 (by decide) (hts _ f_S_22) (fun _ h9 => h9) rfl d_S_sweep_32 ?_
        refine CTi_S (isC := []) (isR := [0, 1, 2, 3, 4, 5, 6, 7]) (wr := [(b, .inr (2, [.ref b1, .ref b2, .int (nI (sn v)), .int (sh v)])), (b1, .inl (cI, 10, .inl (sT v))), (b2, .inl (cI, 10, .inl (sR v))), (h, .inr (1, [.ref a1, .ref a2, .ref a3, .ref a4, .int (nI (dz d)), .int (nI (dl d)), .int (nI (dO d))])), (a1, .inl (cI, 1575, .inl (dC d))), (a2, .inl (cI, 1575, .inl (dF d))), (a3, .inl (cI, 1575, .inl (dT d))), (a4, .inl (cI, 3060, .inl (dK d)))]) (wi := []) (wo := []) (As := [.int (sh v)]) (rest := [.int (dC d i)]) ⟨hx, hb, hml, hown, hts⟩ [] (k_L_opposite l D ((sh v))) (va_cwS 1 hts v_S_51 rfl rfl rfl (by decide +kernel) ⟨Nat.le_of_ble_eq_true rfl, Nat.le_of_ble_eq_true rfl⟩) ⟨rfl, rfl, rfl, rfl, by decide⟩ rfl hK hP hD hS hA rfl hl.1 (Nat.le_of_ble_eq_true rfl) d_S_sweep_35 ⟨Nat.le_of_ble_eq_true rfl, Nat.le_of_ble_eq_true rfl⟩ (fun H locs hP hD hS => ?_)
        have hP : va_P D cls_ [(b, .inr (2, [.ref b1, .ref b2, .int (nI (sn v)), .int (sh v)])), (b1, .inl (cI, 10, .inl (sT v))), (b2, .inl (cI, 10, .inl (sR v))), (h, .inr (1, [.ref a1, .ref a2, .ref a3, .ref a4, .int (nI (dz d)), .int (nI (dl d)), .int (nI (dO d))])), (a1, .inl (cI, 1575, .inl (dC d))), (a2, .inl (cI, 1575, .inl (dF d))), (a3, .inl (cI, 1575, .inl (dT d))), (a4, .inl (cI, 3060, .inl (dK d)))] H := hP
        have hD : va_D A [(b, .inr (2, [.ref b1, .ref b2, .int (nI (sn v)), .int (sh v)])), (b1, .inl (cI, 10, .inl (sT v))), (b2, .inl (cI, 10, .inl (sR v))), (h, .inr (1, [.ref a1, .ref a2, .ref a3, .ref a4, .int (nI (dz d)), .int (nI (dl d)), .int (nI (dO d))])), (a1, .inl (cI, 1575, .inl (dC d))), (a2, .inl (cI, 1575, .inl (dF d))), (a3, .inl (cI, 1575, .inl (dT d))), (a4, .inl (cI, 3060, .inl (dK d)))] := hD
        refine lv_iconst (v := (-1)) hx hb d_S_sweep_38 (by decide) ?_
        refine lv_ixor hx hb d_S_sweep_39 ?_
        refine lv_iand hx hb d_S_sweep_40 ?_
        refine lv_istore (lv' := [(5, .int (cc_open (dC d i) (sh v))), (4, .int (dC d i)), (3, .int (nI i)), (2, .int (nI (dz d))), (0, .ref b), (1, .ref h)]) hx hb d_S_sweep_41 hl (by decide) rfl (fun ls hl => ?_)
        refine lv_iload hx hb d_S_sweep_43 (lv_at hl 0 rfl) ?_
        refine lv_if_ne (tgt := 50) hx hb d_S_sweep_45 rfl (fun hc45 => ?_) (fun hc45 => ?_)
        · refine lv_iload hx hb d_S_sweep_50 (lv_at hl 0 rfl) ?_
          refine CTi_S (isC := []) (isR := [0, 1, 2, 3, 4, 5, 6, 7]) (wr := [(b, .inr (2, [.ref b1, .ref b2, .int (nI (sn v)), .int (sh v)])), (b1, .inl (cI, 10, .inl (sT v))), (b2, .inl (cI, 10, .inl (sR v))), (h, .inr (1, [.ref a1, .ref a2, .ref a3, .ref a4, .int (nI (dz d)), .int (nI (dl d)), .int (nI (dO d))])), (a1, .inl (cI, 1575, .inl (dC d))), (a2, .inl (cI, 1575, .inl (dF d))), (a3, .inl (cI, 1575, .inl (dT d))), (a4, .inl (cI, 3060, .inl (dK d)))]) (wi := []) (wo := []) (As := [.int (cc_open (dC d i) (sh v))]) (rest := []) ⟨hx, hb, hml, hown, hts⟩ [] (k_L_isSingle l D ((cc_open (dC d i) (sh v)))) (va_cwS 1 hts v_S_56 rfl rfl rfl (by decide +kernel) ⟨Nat.le_of_ble_eq_true rfl, Nat.le_of_ble_eq_true rfl⟩) ⟨rfl, rfl, rfl, rfl, by decide⟩ rfl hK hP hD hS hA rfl hl.1 (Nat.le_of_ble_eq_true rfl) d_S_sweep_52 ⟨Nat.le_of_ble_eq_true rfl, Nat.le_of_ble_eq_true rfl⟩ (fun H locs hP hD hS => ?_)
          have hP : va_P D cls_ [(b, .inr (2, [.ref b1, .ref b2, .int (nI (sn v)), .int (sh v)])), (b1, .inl (cI, 10, .inl (sT v))), (b2, .inl (cI, 10, .inl (sR v))), (h, .inr (1, [.ref a1, .ref a2, .ref a3, .ref a4, .int (nI (dz d)), .int (nI (dl d)), .int (nI (dO d))])), (a1, .inl (cI, 1575, .inl (dC d))), (a2, .inl (cI, 1575, .inl (dF d))), (a3, .inl (cI, 1575, .inl (dT d))), (a4, .inl (cI, 3060, .inl (dK d)))] H := hP
          have hD : va_D A [(b, .inr (2, [.ref b1, .ref b2, .int (nI (sn v)), .int (sh v)])), (b1, .inl (cI, 10, .inl (sT v))), (b2, .inl (cI, 10, .inl (sR v))), (h, .inr (1, [.ref a1, .ref a2, .ref a3, .ref a4, .int (nI (dz d)), .int (nI (dl d)), .int (nI (dO d))])), (a1, .inl (cI, 1575, .inl (dC d))), (a2, .inl (cI, 1575, .inl (dF d))), (a3, .inl (cI, 1575, .inl (dT d))), (a4, .inl (cI, 3060, .inl (dK d)))] := hD
          refine lv_if_eq (tgt := 65) hx hb d_S_sweep_55 rfl (fun hc55 => ?_) (fun hc55 => ?_)
          · refine lv_iinc (k := 2) (v := (nI (i + 1))) (lv' := [(3, .int (nI (i + 1))), (5, .int (cc_open (dC d i) (sh v))), (4, .int (dC d i)), (2, .int (nI (dz d))), (0, .ref b), (1, .ref h)]) hx hb d_S_sweep_65 hl rfl (nI_1 i) (by decide) rfl (fun ls hl => ?_)
            refine lv_goto (tgt := 7) hx hb d_S_sweep_68 rfl ?_
            exact ih (i + 1) v ls H locs (by omega) hv (by rw [← he, sr_sweep_s, if_pos hc26, if_neg hc45, if_neg (it0 hc55)]) hP hD hS (lv_sub hl [0, 3, 4, 5] rfl)
          · refine lv_aload_n hx hb d_S_sweep_58 rfl (lv_at hl 4 rfl) ?_
            refine lv_iload hx hb d_S_sweep_59 (lv_at hl 0 rfl) ?_
            refine lv_iload_n hx hb d_S_sweep_61 rfl (lv_at hl 2 rfl) ?_
            refine CTv_V (isC := [0, 1, 2]) (isR := [3, 4, 5, 6, 7]) (wr := [(h, .inr (1, [.ref a1, .ref a2, .ref a3, .ref a4, .int (nI (dz d)), .int (nI (dl d)), .int (nI (dO d))])), (a1, .inl (cI, 1575, .inl (dC d))), (a2, .inl (cI, 1575, .inl (dF d))), (a3, .inl (cI, 1575, .inl (dT d))), (a4, .inl (cI, 3060, .inl (dK d)))]) (wi := [(b, .inr (2, [.ref b1, .ref b2, .int (nI (sn v)), .int (sh v)])), (b1, .inl (cI, 10, .inl (sT v))), (b2, .inl (cI, 10, .inl (sR v)))]) (wo := [(b, .inr (2, [.ref b1, .ref b2, .int (nI (sn (sr_hold v ((cc_open (dC d i) (sh v))) ((nI i))))), .int (sh (sr_hold v ((cc_open (dC d i) (sh v))) ((nI i))))])), (b1, .inl (cI, 10, .inl (sT (sr_hold v ((cc_open (dC d i) (sh v))) ((nI i)))))), (b2, .inl (cI, 10, .inl (sR (sr_hold v ((cc_open (dC d i) (sh v))) ((nI i))))))]) (b := b) (As := [.int (cc_open (dC d i) (sh v)), .int (nI i)]) (rest := []) ⟨hx, hb, hml, hown, hts⟩ [0] (k_S_hold l D cI b b1 b2 v hv ((cc_open (dC d i) (sh v))) ((nI i))) (cwV 2 hts v_S_60 rfl rfl rfl (by decide +kernel) ⟨Nat.le_of_ble_eq_true rfl, Nat.le_of_ble_eq_true rfl⟩) ⟨rfl, rfl, rfl, rfl, by decide⟩ rfl hK hP hD hS hA (va_recv (ci := 2) hK hP rfl (q0 := 0) rfl) rfl hl.1 (Nat.le_of_ble_eq_true rfl) d_S_sweep_62 ⟨Nat.le_of_ble_eq_true rfl, Nat.le_of_ble_eq_true rfl⟩ (fun H locs hP hD hS => ?_)
            have hP : va_P D cls_ [(h, .inr (1, [.ref a1, .ref a2, .ref a3, .ref a4, .int (nI (dz d)), .int (nI (dl d)), .int (nI (dO d))])), (a1, .inl (cI, 1575, .inl (dC d))), (a2, .inl (cI, 1575, .inl (dF d))), (a3, .inl (cI, 1575, .inl (dT d))), (a4, .inl (cI, 3060, .inl (dK d))), (b, .inr (2, [.ref b1, .ref b2, .int (nI (sn (sr_hold v ((cc_open (dC d i) (sh v))) ((nI i))))), .int (sh (sr_hold v ((cc_open (dC d i) (sh v))) ((nI i))))])), (b1, .inl (cI, 10, .inl (sT (sr_hold v ((cc_open (dC d i) (sh v))) ((nI i)))))), (b2, .inl (cI, 10, .inl (sR (sr_hold v ((cc_open (dC d i) (sh v))) ((nI i))))))] H := hP
            have hD : va_D A [(h, .inr (1, [.ref a1, .ref a2, .ref a3, .ref a4, .int (nI (dz d)), .int (nI (dl d)), .int (nI (dO d))])), (a1, .inl (cI, 1575, .inl (dC d))), (a2, .inl (cI, 1575, .inl (dF d))), (a3, .inl (cI, 1575, .inl (dT d))), (a4, .inl (cI, 3060, .inl (dK d))), (b, .inr (2, [.ref b1, .ref b2, .int (nI (sn (sr_hold v ((cc_open (dC d i) (sh v))) ((nI i))))), .int (sh (sr_hold v ((cc_open (dC d i) (sh v))) ((nI i))))])), (b1, .inl (cI, 10, .inl (sT (sr_hold v ((cc_open (dC d i) (sh v))) ((nI i)))))), (b2, .inl (cI, 10, .inl (sR (sr_hold v ((cc_open (dC d i) (sh v))) ((nI i))))))] := hD
            refine lv_iinc (k := 2) (v := (nI (i + 1))) (lv' := [(3, .int (nI (i + 1))), (5, .int (cc_open (dC d i) (sh v))), (4, .int (dC d i)), (2, .int (nI (dz d))), (0, .ref b), (1, .ref h)]) hx hb d_S_sweep_65 hl rfl (nI_1 i) (by decide) rfl (fun ls hl => ?_)
            refine lv_goto (tgt := 7) hx hb d_S_sweep_68 rfl ?_
            have hP := hP.sub (ws' := [(b, .inr (2, [.ref b1, .ref b2, .int (nI (sn (sr_hold v ((cc_open (dC d i) (sh v))) ((nI i))))), .int (sh (sr_hold v ((cc_open (dC d i) (sh v))) ((nI i))))])), (b1, .inl (cI, 10, .inl (sT (sr_hold v ((cc_open (dC d i) (sh v))) ((nI i)))))), (b2, .inl (cI, 10, .inl (sR (sr_hold v ((cc_open (dC d i) (sh v))) ((nI i)))))), (h, .inr (1, [.ref a1, .ref a2, .ref a3, .ref a4, .int (nI (dz d)), .int (nI (dl d)), .int (nI (dO d))])), (a1, .inl (cI, 1575, .inl (dC d))), (a2, .inl (cI, 1575, .inl (dF d))), (a3, .inl (cI, 1575, .inl (dT d))), (a4, .inl (cI, 3060, .inl (dK d)))]) [5, 6, 7, 0, 1, 2, 3, 4] rfl
            have hD := hD.sub (ws' := [(b, .inr (2, [.ref b1, .ref b2, .int (nI (sn (sr_hold v ((cc_open (dC d i) (sh v))) ((nI i))))), .int (sh (sr_hold v ((cc_open (dC d i) (sh v))) ((nI i))))])), (b1, .inl (cI, 10, .inl (sT (sr_hold v ((cc_open (dC d i) (sh v))) ((nI i)))))), (b2, .inl (cI, 10, .inl (sR (sr_hold v ((cc_open (dC d i) (sh v))) ((nI i)))))), (h, .inr (1, [.ref a1, .ref a2, .ref a3, .ref a4, .int (nI (dz d)), .int (nI (dl d)), .int (nI (dO d))])), (a1, .inl (cI, 1575, .inl (dC d))), (a2, .inl (cI, 1575, .inl (dF d))), (a3, .inl (cI, 1575, .inl (dT d))), (a4, .inl (cI, 3060, .inl (dK d)))]) [5, 6, 7, 0, 1, 2, 3, 4] (by decide) rfl
            exact ih (i + 1) (sr_hold v (cc_open (dC d i) (sh v)) (nI i)) ls H locs (by omega) (hold_le hv) (by rw [← he, sr_sweep_s, if_pos hc26, if_neg hc45, if_pos (it1 hc55)]) hP hD hS (lv_sub hl [0, 3, 4, 5] rfl)
        · refine lv_iload_n hx hb d_S_sweep_48 rfl (lv_at hl 2 rfl) ?_
          have he9 : (nI i, v) = res := by rw [← he, sr_sweep_s, if_pos hc26, if_pos hc45]
          subst he9
          exact fin _ _ _ _ _ hP hD hS rfl d_S_sweep_49
  refine lv_aload_n hx hb d_S_sweep_0 rfl (lv_at hl 1 rfl) ?_
  refine CTi_V (isC := [3, 4, 5, 6, 7]) (isR := [0, 1, 2]) (wr := [(b, .inr (2, [.ref b1, .ref b2, .int (nI (sn s)), .int (sh s)])), (b1, .inl (cI, 10, .inl (sT s))), (b2, .inl (cI, 10, .inl (sR s)))]) (wi := [(h, .inr (1, [.ref a1, .ref a2, .ref a3, .ref a4, .int (nI (dz d)), .int (nI (dl d)), .int (nI (dO d))])), (a1, .inl (cI, 1575, .inl (dC d))), (a2, .inl (cI, 1575, .inl (dF d))), (a3, .inl (cI, 1575, .inl (dT d))), (a4, .inl (cI, 3060, .inl (dK d)))]) (wo := [(h, .inr (1, [.ref a1, .ref a2, .ref a3, .ref a4, .int (nI (dz d)), .int (nI (dl d)), .int (nI (dO d))])), (a1, .inl (cI, 1575, .inl (dC d))), (a2, .inl (cI, 1575, .inl (dF d))), (a3, .inl (cI, 1575, .inl (dT d))), (a4, .inl (cI, 3060, .inl (dK d)))]) (b := h) (As := []) (rest := []) ⟨hx, hb, hml, hown, hts⟩ [0] (k_D_size l D cI h a1 a2 a3 a4 d hd) (cwV 0 hts v_S_41 rfl rfl rfl (by decide +kernel) ⟨Nat.le_of_ble_eq_true rfl, Nat.le_of_ble_eq_true rfl⟩) ⟨rfl, rfl, rfl, rfl, by decide⟩ rfl hK hP hD hS hA (va_recv (ci := 1) hK hP rfl (q0 := 3) rfl) rfl hl.1 (Nat.le_of_ble_eq_true rfl) d_S_sweep_1 ⟨Nat.le_of_ble_eq_true rfl, Nat.le_of_ble_eq_true rfl⟩ (fun H locs hP hD hS => ?_)
  have hP : va_P D cls_ [(b, .inr (2, [.ref b1, .ref b2, .int (nI (sn s)), .int (sh s)])), (b1, .inl (cI, 10, .inl (sT s))), (b2, .inl (cI, 10, .inl (sR s))), (h, .inr (1, [.ref a1, .ref a2, .ref a3, .ref a4, .int (nI (dz d)), .int (nI (dl d)), .int (nI (dO d))])), (a1, .inl (cI, 1575, .inl (dC d))), (a2, .inl (cI, 1575, .inl (dF d))), (a3, .inl (cI, 1575, .inl (dT d))), (a4, .inl (cI, 3060, .inl (dK d)))] H := hP
  have hD : va_D A [(b, .inr (2, [.ref b1, .ref b2, .int (nI (sn s)), .int (sh s)])), (b1, .inl (cI, 10, .inl (sT s))), (b2, .inl (cI, 10, .inl (sR s))), (h, .inr (1, [.ref a1, .ref a2, .ref a3, .ref a4, .int (nI (dz d)), .int (nI (dl d)), .int (nI (dO d))])), (a1, .inl (cI, 1575, .inl (dC d))), (a2, .inl (cI, 1575, .inl (dF d))), (a3, .inl (cI, 1575, .inl (dT d))), (a4, .inl (cI, 3060, .inl (dK d)))] := hD
  refine lv_istore_n (lv' := [(2, .int (nI (dz d))), (0, .ref b), (1, .ref h)]) hx hb d_S_sweep_4 rfl hl (by decide) rfl (fun ls hl => ?_)
  refine lv_iconst (v := 0) hx hb d_S_sweep_5 (by decide) ?_
  refine lv_istore_n (lv' := [(3, .int 0), (2, .int (nI (dz d))), (0, .ref b), (1, .ref h)]) hx hb d_S_sweep_6 rfl hl (by decide) rfl (fun ls hl => ?_)
  exact loop (dz d) 0 s ls H locs (by omega) hs hT hP hD hS (lv_sub hl [0, 1, 2, 3] rfl)
set_option maxHeartbeats 4000000 in
set_option maxRecDepth 100000 in
theorem k_S_propagate (l : Launch) (D : va_G) (cI : ClassId) (b b1 b2 h a1 a2 a3 a4 : Nat) (s : SS) (hs : sn s ≤ 10) (d : DS) (hd : DW d) : KTi l y_S_propagate c_S_propagate 6 .int { frames := 3, cells := 0, slots := 0, locals := 67 } D [(cI, .int)] [.ref b, .ref h] (wX cI b b1 b2 h a1 a2 a3 a4 s d) ((sr_prop (dC d) (dz d) 11 s).1) (wX cI b b1 b2 h a1 a2 a3 a4 (sr_prop (dC d) (dz d) 11 s).2 d) := by
  refine KTi_of (own := R_S) (by decide +kernel) rfl (Nat.le_of_ble_eq_true rfl) (vp_nar_int _) ?_
  intro p e st m below meth c A ls Q hx hb hml hts hown hK hP hD hS hA hl fin
  generalize hT : sr_prop (dC d) (dz d) 11 s = res at fin
  have loop : ∀ (r q : Nat) (v : SS) (ls : Array Slot) (H : Heap) (locs : List Loc), q + r = 11 → sn v ≤ 10 → sr_prop (dC d) (dz d) r v = res → va_P D cls_ [(b, .inr (2, [.ref b1, .ref b2, .int (nI (sn v)), .int (sh v)])), (b1, .inl (cI, 10, .inl (sT v))), (b2, .inl (cI, 10, .inl (sR v))), (h, .inr (1, [.ref a1, .ref a2, .ref a3, .ref a4, .int (nI (dz d)), .int (nI (dl d)), .int (nI (dO d))])), (a1, .inl (cI, 1575, .inl (dC d))), (a2, .inl (cI, 1575, .inl (dF d))), (a3, .inl (cI, 1575, .inl (dT d))), (a4, .inl (cI, 3060, .inl (dK d)))] H → va_D A [(b, .inr (2, [.ref b1, .ref b2, .int (nI (sn v)), .int (sh v)])), (b1, .inl (cI, 10, .inl (sT v))), (b2, .inl (cI, 10, .inl (sR v))), (h, .inr (1, [.ref a1, .ref a2, .ref a3, .ref a4, .int (nI (dz d)), .int (nI (dl d)), .int (nI (dO d))])), (a1, .inl (cI, 1575, .inl (dC d))), (a2, .inl (cI, 1575, .inl (dF d))), (a3, .inl (cI, 1575, .inl (dT d))), (a4, .inl (cI, 3060, .inl (dK d)))] → va_S A st.heap H locs → lv_has ls 6 [(3, .int (nI q)), (2, .int 1), (0, .ref b), (1, .ref h)] → W p l e { frames := 3, cells := 0, slots := 0, locals := 67 } st m [Value.ref b, Value.ref h].toArray below meth c H locs 0 0 Q (F0 m 4 ls []) := by
    intro r
    induction r with
    | zero =>
      intro q v ls H locs hi hv he hP hD hS hl
      have he : ((-1 : Int32), v) = res := he
      subst he
      refine lv_iload_n hx hb d_S_propagate_4 rfl (lv_at hl 1 rfl) ?_
      refine lv_if_eq (tgt := 57) hx hb d_S_propagate_5 rfl (fun hc5 => absurd hc5 (by decide)) (fun hc5 => ?_)
      refine lv_iload_n hx hb d_S_propagate_8 rfl (lv_at hl 0 rfl) ?_
      refine lv_bipush (v := 10) hx hb d_S_propagate_9 (by decide +kernel) ?_
      refine lv_icmp_gt (tgt := 57) hx hb d_S_propagate_11 rfl (fun hc11 => ?_) (fun hc11 => absurd (nI_lt (a := 10) (by omega) (by omega)) hc11)
      refine lv_iconst (v := (-1)) hx hb d_S_propagate_57 (by decide) ?_
      exact fin _ _ _ _ _ hP hD hS (rfl) d_S_propagate_58
    | succ r ih =>
      intro q v ls H locs hi hv he hP hD hS hl
      refine lv_iload_n hx hb d_S_propagate_4 rfl (lv_at hl 1 rfl) ?_
      refine lv_if_eq (tgt := 57) hx hb d_S_propagate_5 rfl (fun hc5 => absurd hc5 (by decide)) (fun hc5 => ?_)
      refine lv_iload_n hx hb d_S_propagate_8 rfl (lv_at hl 0 rfl) ?_
      refine lv_bipush (v := 10) hx hb d_S_propagate_9 (by decide +kernel) ?_
      refine lv_icmp_gt (tgt := 57) hx hb d_S_propagate_11 rfl (fun hc11 => absurd hc11 (nI_nlt (b := q) (a := 10) (by omega) (by decide))) (fun hc11 => ?_)
      refine lv_aload_n hx hb d_S_propagate_14 rfl (lv_at hl 2 rfl) ?_
      refine va_get (D := D) (ci := 2) (v := .int (nI (sn v))) (C := R_S) (T := T_S) (N := 4) hx hb hts u_S hown hK hP 0 rfl rfl 2 (by decide) (hts _ f_S_18) (fun _ h9 => h9) rfl d_S_propagate_15 ?_
      refine lv_istore (lv' := [(4, .int (nI (sn v))), (3, .int (nI q)), (2, .int 1), (0, .ref b), (1, .ref h)]) hx hb d_S_propagate_18 hl (by decide) rfl (fun ls hl => ?_)
      refine lv_aload_n hx hb d_S_propagate_20 rfl (lv_at hl 3 rfl) ?_
      refine lv_aload_n hx hb d_S_propagate_21 rfl (lv_at hl 4 rfl) ?_
      refine CTi_V (isC := [0, 1, 2, 3, 4, 5, 6, 7]) (isR := []) (wr := []) (wi := [(b, .inr (2, [.ref b1, .ref b2, .int (nI (sn v)), .int (sh v)])), (b1, .inl (cI, 10, .inl (sT v))), (b2, .inl (cI, 10, .inl (sR v))), (h, .inr (1, [.ref a1, .ref a2, .ref a3, .ref a4, .int (nI (dz d)), .int (nI (dl d)), .int (nI (dO d))])), (a1, .inl (cI, 1575, .inl (dC d))), (a2, .inl (cI, 1575, .inl (dF d))), (a3, .inl (cI, 1575, .inl (dT d))), (a4, .inl (cI, 3060, .inl (dK d)))]) (wo := [(b, .inr (2, [.ref b1, .ref b2, .int (nI (sn (sr_sweep (dC d) (dz d) 0 v).2)), .int (sh (sr_sweep (dC d) (dz d) 0 v).2)])), (b1, .inl (cI, 10, .inl (sT (sr_sweep (dC d) (dz d) 0 v).2))), (b2, .inl (cI, 10, .inl (sR (sr_sweep (dC d) (dz d) 0 v).2))), (h, .inr (1, [.ref a1, .ref a2, .ref a3, .ref a4, .int (nI (dz d)), .int (nI (dl d)), .int (nI (dO d))])), (a1, .inl (cI, 1575, .inl (dC d))), (a2, .inl (cI, 1575, .inl (dF d))), (a3, .inl (cI, 1575, .inl (dT d))), (a4, .inl (cI, 3060, .inl (dK d)))]) (b := b) (As := [.ref h]) (rest := []) ⟨hx, hb, hml, hown, hts⟩ [0] (k_S_sweep l D cI b b1 b2 h a1 a2 a3 a4 v hv d hd) (cwV 1 hts v_S_38 rfl rfl rfl (by decide +kernel) ⟨Nat.le_of_ble_eq_true rfl, Nat.le_of_ble_eq_true rfl⟩) ⟨rfl, rfl, rfl, rfl, by decide⟩ rfl hK hP hD hS hA (va_recv (ci := 2) hK hP rfl (q0 := 0) rfl) rfl hl.1 (Nat.le_of_ble_eq_true rfl) d_S_propagate_22 ⟨Nat.le_of_ble_eq_true rfl, Nat.le_of_ble_eq_true rfl⟩ (fun H locs hP hD hS => ?_)
      have hP : va_P D cls_ [(b, .inr (2, [.ref b1, .ref b2, .int (nI (sn (sr_sweep (dC d) (dz d) 0 v).2)), .int (sh (sr_sweep (dC d) (dz d) 0 v).2)])), (b1, .inl (cI, 10, .inl (sT (sr_sweep (dC d) (dz d) 0 v).2))), (b2, .inl (cI, 10, .inl (sR (sr_sweep (dC d) (dz d) 0 v).2))), (h, .inr (1, [.ref a1, .ref a2, .ref a3, .ref a4, .int (nI (dz d)), .int (nI (dl d)), .int (nI (dO d))])), (a1, .inl (cI, 1575, .inl (dC d))), (a2, .inl (cI, 1575, .inl (dF d))), (a3, .inl (cI, 1575, .inl (dT d))), (a4, .inl (cI, 3060, .inl (dK d)))] H := hP
      have hD : va_D A [(b, .inr (2, [.ref b1, .ref b2, .int (nI (sn (sr_sweep (dC d) (dz d) 0 v).2)), .int (sh (sr_sweep (dC d) (dz d) 0 v).2)])), (b1, .inl (cI, 10, .inl (sT (sr_sweep (dC d) (dz d) 0 v).2))), (b2, .inl (cI, 10, .inl (sR (sr_sweep (dC d) (dz d) 0 v).2))), (h, .inr (1, [.ref a1, .ref a2, .ref a3, .ref a4, .int (nI (dz d)), .int (nI (dl d)), .int (nI (dO d))])), (a1, .inl (cI, 1575, .inl (dC d))), (a2, .inl (cI, 1575, .inl (dF d))), (a3, .inl (cI, 1575, .inl (dT d))), (a4, .inl (cI, 3060, .inl (dK d)))] := hD
      refine lv_istore (lv' := [(5, .int (sr_sweep (dC d) (dz d) 0 v).1), (4, .int (nI (sn v))), (3, .int (nI q)), (2, .int 1), (0, .ref b), (1, .ref h)]) hx hb d_S_propagate_25 hl (by decide) rfl (fun ls hl => ?_)
      refine lv_iload hx hb d_S_propagate_27 (lv_at hl 0 rfl) ?_
      refine lv_iconst (v := (-1)) hx hb d_S_propagate_29 (by decide) ?_
      refine lv_icmp_eq (tgt := 36) hx hb d_S_propagate_30 rfl (fun hc30 => ?_) (fun hc30 => ?_)
      · refine lv_aload_n hx hb d_S_propagate_36 rfl (lv_at hl 4 rfl) ?_
        refine va_get (D := D) (ci := 2) (v := .int (nI (sn (sr_sweep (dC d) (dz d) 0 v).2))) (C := R_S) (T := T_S) (N := 4) hx hb hts u_S hown hK hP 0 rfl rfl 2 (by decide) (hts _ f_S_18) (fun _ h9 => h9) rfl d_S_propagate_37 ?_
        refine lv_iload hx hb d_S_propagate_40 (lv_at hl 1 rfl) ?_
        refine lv_icmp_le (tgt := 49) hx hb d_S_propagate_42 rfl (fun hc42 => ?_) (fun hc42 => ?_)
        · refine lv_iconst (v := 0) hx hb d_S_propagate_49 (by decide) ?_
          refine lv_istore_n (lv' := [(2, .int 0), (5, .int (sr_sweep (dC d) (dz d) 0 v).1), (4, .int (nI (sn v))), (3, .int (nI q)), (0, .ref b), (1, .ref h)]) hx hb d_S_propagate_50 rfl hl (by decide) rfl (fun ls hl => ?_)
          refine lv_iinc (k := 3) (v := (nI (q + 1))) (lv' := [(3, .int (nI (q + 1))), (2, .int 0), (5, .int (sr_sweep (dC d) (dz d) 0 v).1), (4, .int (nI (sn v))), (0, .ref b), (1, .ref h)]) hx hb d_S_propagate_51 hl rfl (nI_1 q) (by decide) rfl (fun ls hl => ?_)
          refine lv_goto (tgt := 4) hx hb d_S_propagate_54 rfl ?_
          refine lv_iload_n hx hb d_S_propagate_4 rfl (lv_at hl 1 rfl) ?_
          refine lv_if_eq (tgt := 57) hx hb d_S_propagate_5 rfl (fun hc5 => ?_) (fun hc5 => absurd rfl hc5)
          refine lv_iconst (v := (-1)) hx hb d_S_propagate_57 (by decide) ?_
          have he9 : sr_sweep (dC d) (dz d) 0 v = res := by rw [← he, sr_prop_s, if_neg (fun h => h hc30), if_neg (fun h => Int32.not_le.mpr (nI_lt h (by have := sweep_le (C := dC d) (dz d) 0 hv; omega)) hc42)]
          rw [← he9] at fin
          exact fin _ _ _ _ _ hP hD hS hc30.symm d_S_propagate_58
        · refine lv_iconst (v := 1) hx hb d_S_propagate_45 (by decide) ?_
          refine lv_goto (tgt := 50) hx hb d_S_propagate_46 rfl ?_
          refine lv_istore_n (lv' := [(2, .int 1), (5, .int (sr_sweep (dC d) (dz d) 0 v).1), (4, .int (nI (sn v))), (3, .int (nI q)), (0, .ref b), (1, .ref h)]) hx hb d_S_propagate_50 rfl hl (by decide) rfl (fun ls hl => ?_)
          refine lv_iinc (k := 3) (v := (nI (q + 1))) (lv' := [(3, .int (nI (q + 1))), (2, .int 1), (5, .int (sr_sweep (dC d) (dz d) 0 v).1), (4, .int (nI (sn v))), (0, .ref b), (1, .ref h)]) hx hb d_S_propagate_51 hl rfl (nI_1 q) (by decide) rfl (fun ls hl => ?_)
          refine lv_goto (tgt := 4) hx hb d_S_propagate_54 rfl ?_
          exact ih (q + 1) (sr_sweep (dC d) (dz d) 0 v).2 ls H locs (by omega) (sweep_le (dz d) 0 hv) (by rw [← he, sr_prop_s, if_neg (fun h => h hc30), if_pos ((nI_ltI (by omega) (by have := sweep_le (C := dC d) (dz d) 0 hv; omega)).1 (Int32.not_le.mp hc42))]) hP hD hS (lv_sub hl [0, 1, 4, 5] rfl)
      · refine lv_iload hx hb d_S_propagate_33 (lv_at hl 0 rfl) ?_
        have he9 : sr_sweep (dC d) (dz d) 0 v = res := by rw [← he, sr_prop_s, if_pos hc30]
        rw [← he9] at fin
        exact fin _ _ _ _ _ hP hD hS rfl d_S_propagate_35
  refine lv_iconst (v := 1) hx hb d_S_propagate_0 (by decide) ?_
  refine lv_istore_n (lv' := [(2, .int 1), (0, .ref b), (1, .ref h)]) hx hb d_S_propagate_1 rfl hl (by decide) rfl (fun ls hl => ?_)
  refine lv_iconst (v := 0) hx hb d_S_propagate_2 (by decide) ?_
  refine lv_istore_n (lv' := [(3, .int 0), (2, .int 1), (0, .ref b), (1, .ref h)]) hx hb d_S_propagate_3 rfl hl (by decide) rfl (fun ls hl => ?_)
  exact loop 11 0 s ls st.heap [] (by omega) hs hT hP hD hS (lv_sub hl [0, 1, 2, 3] rfl)
set_option maxHeartbeats 4000000 in
set_option maxRecDepth 100000 in
theorem k_S_learn (l : Launch) (D : va_G) (cI : ClassId) (b b1 b2 h a1 a2 a3 a4 : Nat) (s : SS) (hs : sn s ≤ 10) (d : DS) (hd : DW d) (x : Int32) : KTi l y_S_learn c_S_learn 8 .int { frames := 2, cells := 0, slots := 0, locals := 46 } D [(cI, .int)] [.ref b, .ref h, .int x] (wX cI b b1 b2 h a1 a2 a3 a4 s d) ((sr_learn d s x).1) (wX cI b b1 b2 h a1 a2 a3 a4 (sr_learn d s x).2.2 (sr_learn d s x).2.1) := by
  refine KTi_of (own := R_S) (by decide +kernel) rfl (Nat.le_of_ble_eq_true rfl) (vp_nar_int _) ?_
  intro p e st m below meth c A ls Q hx hb hml hts hown hK hP hD hS hA hl fin
  have hq0 := (ld_spec (sR s) (sn s)).1
  unfold sr_learn at fin
  generalize hT : sr_learn1 d s x = res at fin
  unfold sr_learn1 at hT
  generalize hLD : sr_ld (sR s) (sn s) = q at fin hT hq0
  generalize hLA : sr_late s = la at hT
  have ex : ∀ (y : Int32) (u : DS) (ls : Array Slot) (H : Heap) (locs : List Loc), DW u → (y, u) = res → va_P D cls_ [(b, .inr (2, [.ref b1, .ref b2, .int (nI (sn s)), .int (sh s)])), (b1, .inl (cI, 10, .inl (sT s))), (b2, .inl (cI, 10, .inl (sR s))), (h, .inr (1, [.ref a1, .ref a2, .ref a3, .ref a4, .int (nI (dz u)), .int (nI (dl u)), .int (nI (dO u))])), (a1, .inl (cI, 1575, .inl (dC u))), (a2, .inl (cI, 1575, .inl (dF u))), (a3, .inl (cI, 1575, .inl (dT u))), (a4, .inl (cI, 3060, .inl (dK u)))] H → va_D A [(b, .inr (2, [.ref b1, .ref b2, .int (nI (sn s)), .int (sh s)])), (b1, .inl (cI, 10, .inl (sT s))), (b2, .inl (cI, 10, .inl (sR s))), (h, .inr (1, [.ref a1, .ref a2, .ref a3, .ref a4, .int (nI (dz u)), .int (nI (dl u)), .int (nI (dO u))])), (a1, .inl (cI, 1575, .inl (dC u))), (a2, .inl (cI, 1575, .inl (dF u))), (a3, .inl (cI, 1575, .inl (dT u))), (a4, .inl (cI, 3060, .inl (dK u)))] → va_S A st.heap H locs → lv_has ls 8 [(5, .int y), (3, .int (nI q - 1)), (0, .ref b), (1, .ref h)] → W p l e { frames := 2, cells := 0, slots := 0, locals := 46 } st m [Value.ref b, Value.ref h, Value.int x].toArray below meth c H locs 0 0 Q (F0 m 125 ls []) := by
    intro y u ls H locs hu he hP hD hS hl
    subst he
    refine lv_aload_n hx hb d_S_learn_125 rfl (lv_at hl 3 rfl) ?_
    refine lv_iload hx hb d_S_learn_126 (lv_at hl 0 rfl) ?_
    refine CTv_V (isC := [3, 4, 5, 6, 7]) (isR := [0, 1, 2]) (wr := [(b, .inr (2, [.ref b1, .ref b2, .int (nI (sn s)), .int (sh s)])), (b1, .inl (cI, 10, .inl (sT s))), (b2, .inl (cI, 10, .inl (sR s)))]) (wi := [(h, .inr (1, [.ref a1, .ref a2, .ref a3, .ref a4, .int (nI (dz u)), .int (nI (dl u)), .int (nI (dO u))])), (a1, .inl (cI, 1575, .inl (dC u))), (a2, .inl (cI, 1575, .inl (dF u))), (a3, .inl (cI, 1575, .inl (dT u))), (a4, .inl (cI, 3060, .inl (dK u)))]) (wo := [(h, .inr (1, [.ref a1, .ref a2, .ref a3, .ref a4, .int (nI (dz (dk_derive u y))), .int (nI (dl (dk_derive u y))), .int (nI (dO (dk_derive u y)))])), (a1, .inl (cI, 1575, .inl (dC (dk_derive u y)))), (a2, .inl (cI, 1575, .inl (dF (dk_derive u y)))), (a3, .inl (cI, 1575, .inl (dT (dk_derive u y)))), (a4, .inl (cI, 3060, .inl (dK (dk_derive u y))))]) (b := h) (As := [.int y]) (rest := []) ⟨hx, hb, hml, hown, hts⟩ [0] (k_D_derive l D cI h a1 a2 a3 a4 u hu y) (cwV 1 hts v_S_76 rfl rfl rfl (by decide +kernel) ⟨Nat.le_of_ble_eq_true rfl, Nat.le_of_ble_eq_true rfl⟩) ⟨rfl, rfl, rfl, rfl, by decide⟩ rfl hK hP hD hS hA (va_recv (ci := 1) hK hP rfl (q0 := 3) rfl) rfl hl.1 (Nat.le_of_ble_eq_true rfl) d_S_learn_128 ⟨Nat.le_of_ble_eq_true rfl, Nat.le_of_ble_eq_true rfl⟩ (fun H locs hP hD hS => ?_)
    have hP : va_P D cls_ [(b, .inr (2, [.ref b1, .ref b2, .int (nI (sn s)), .int (sh s)])), (b1, .inl (cI, 10, .inl (sT s))), (b2, .inl (cI, 10, .inl (sR s))), (h, .inr (1, [.ref a1, .ref a2, .ref a3, .ref a4, .int (nI (dz (dk_derive u y))), .int (nI (dl (dk_derive u y))), .int (nI (dO (dk_derive u y)))])), (a1, .inl (cI, 1575, .inl (dC (dk_derive u y)))), (a2, .inl (cI, 1575, .inl (dF (dk_derive u y)))), (a3, .inl (cI, 1575, .inl (dT (dk_derive u y)))), (a4, .inl (cI, 3060, .inl (dK (dk_derive u y))))] H := hP
    have hD : va_D A [(b, .inr (2, [.ref b1, .ref b2, .int (nI (sn s)), .int (sh s)])), (b1, .inl (cI, 10, .inl (sT s))), (b2, .inl (cI, 10, .inl (sR s))), (h, .inr (1, [.ref a1, .ref a2, .ref a3, .ref a4, .int (nI (dz (dk_derive u y))), .int (nI (dl (dk_derive u y))), .int (nI (dO (dk_derive u y)))])), (a1, .inl (cI, 1575, .inl (dC (dk_derive u y)))), (a2, .inl (cI, 1575, .inl (dF (dk_derive u y)))), (a3, .inl (cI, 1575, .inl (dT (dk_derive u y)))), (a4, .inl (cI, 3060, .inl (dK (dk_derive u y))))] := hD
    refine lv_aload_n hx hb d_S_learn_131 rfl (lv_at hl 2 rfl) ?_
    refine lv_aload_n hx hb d_S_learn_132 rfl (lv_at hl 2 rfl) ?_
    refine lv_iload hx hb d_S_learn_133 (lv_at hl 0 rfl) ?_
    refine lv_iload_n hx hb d_S_learn_135 rfl (lv_at hl 1 rfl) ?_
    refine CTi_V (isC := [0, 1, 2]) (isR := [3, 4, 5, 6, 7]) (wr := [(h, .inr (1, [.ref a1, .ref a2, .ref a3, .ref a4, .int (nI (dz (dk_derive u y))), .int (nI (dl (dk_derive u y))), .int (nI (dO (dk_derive u y)))])), (a1, .inl (cI, 1575, .inl (dC (dk_derive u y)))), (a2, .inl (cI, 1575, .inl (dF (dk_derive u y)))), (a3, .inl (cI, 1575, .inl (dT (dk_derive u y)))), (a4, .inl (cI, 3060, .inl (dK (dk_derive u y))))]) (wi := [(b, .inr (2, [.ref b1, .ref b2, .int (nI (sn s)), .int (sh s)])), (b1, .inl (cI, 10, .inl (sT s))), (b2, .inl (cI, 10, .inl (sR s)))]) (wo := [(b, .inr (2, [.ref b1, .ref b2, .int (nI (sn s)), .int (sh s)])), (b1, .inl (cI, 10, .inl (sT s))), (b2, .inl (cI, 10, .inl (sR s)))]) (b := b) (As := [.int y, .int (nI q - 1)]) (rest := [.ref b]) ⟨hx, hb, hml, hown, hts⟩ [0] (k_S_jumpTarget l D cI b b1 b2 s hs y (nI q - 1) q hq0 rfl) (cwV 2 hts v_S_79 rfl rfl rfl (by decide +kernel) ⟨Nat.le_of_ble_eq_true rfl, Nat.le_of_ble_eq_true rfl⟩) ⟨rfl, rfl, rfl, rfl, by decide⟩ rfl hK hP hD hS hA (va_recv (ci := 2) hK hP rfl (q0 := 0) rfl) rfl hl.1 (Nat.le_of_ble_eq_true rfl) d_S_learn_136 ⟨Nat.le_of_ble_eq_true rfl, Nat.le_of_ble_eq_true rfl⟩ (fun H locs hP hD hS => ?_)
    have hP : va_P D cls_ [(h, .inr (1, [.ref a1, .ref a2, .ref a3, .ref a4, .int (nI (dz (dk_derive u y))), .int (nI (dl (dk_derive u y))), .int (nI (dO (dk_derive u y)))])), (a1, .inl (cI, 1575, .inl (dC (dk_derive u y)))), (a2, .inl (cI, 1575, .inl (dF (dk_derive u y)))), (a3, .inl (cI, 1575, .inl (dT (dk_derive u y)))), (a4, .inl (cI, 3060, .inl (dK (dk_derive u y)))), (b, .inr (2, [.ref b1, .ref b2, .int (nI (sn s)), .int (sh s)])), (b1, .inl (cI, 10, .inl (sT s))), (b2, .inl (cI, 10, .inl (sR s)))] H := hP
    have hD : va_D A [(h, .inr (1, [.ref a1, .ref a2, .ref a3, .ref a4, .int (nI (dz (dk_derive u y))), .int (nI (dl (dk_derive u y))), .int (nI (dO (dk_derive u y)))])), (a1, .inl (cI, 1575, .inl (dC (dk_derive u y)))), (a2, .inl (cI, 1575, .inl (dF (dk_derive u y)))), (a3, .inl (cI, 1575, .inl (dT (dk_derive u y)))), (a4, .inl (cI, 3060, .inl (dK (dk_derive u y)))), (b, .inr (2, [.ref b1, .ref b2, .int (nI (sn s)), .int (sh s)])), (b1, .inl (cI, 10, .inl (sT s))), (b2, .inl (cI, 10, .inl (sR s)))] := hD
    refine CTv_V (isC := [5, 6, 7]) (isR := [0, 1, 2, 3, 4]) (wr := [(h, .inr (1, [.ref a1, .ref a2, .ref a3, .ref a4, .int (nI (dz (dk_derive u y))), .int (nI (dl (dk_derive u y))), .int (nI (dO (dk_derive u y)))])), (a1, .inl (cI, 1575, .inl (dC (dk_derive u y)))), (a2, .inl (cI, 1575, .inl (dF (dk_derive u y)))), (a3, .inl (cI, 1575, .inl (dT (dk_derive u y)))), (a4, .inl (cI, 3060, .inl (dK (dk_derive u y))))]) (wi := [(b, .inr (2, [.ref b1, .ref b2, .int (nI (sn s)), .int (sh s)])), (b1, .inl (cI, 10, .inl (sT s))), (b2, .inl (cI, 10, .inl (sR s)))]) (wo := [(b, .inr (2, [.ref b1, .ref b2, .int (nI (sn (sr_cut s (sr_jump (sT s) (sR s) y (q - 1) (q - 1))))), .int (sh (sr_cut s (sr_jump (sT s) (sR s) y (q - 1) (q - 1))))])), (b1, .inl (cI, 10, .inl (sT (sr_cut s (sr_jump (sT s) (sR s) y (q - 1) (q - 1)))))), (b2, .inl (cI, 10, .inl (sR (sr_cut s (sr_jump (sT s) (sR s) y (q - 1) (q - 1))))))]) (b := b) (As := [.int (nI (sr_jump (sT s) (sR s) y (q - 1) (q - 1)))]) (rest := []) ⟨hx, hb, hml, hown, hts⟩ [0] (k_S_cut l D cI b b1 b2 s hs _ (sr_jump (sT s) (sR s) y (q - 1) (q - 1)) (jump_le (by omega) (by omega)) rfl) (cwV 1 hts v_S_83 rfl rfl rfl (by decide +kernel) ⟨Nat.le_of_ble_eq_true rfl, Nat.le_of_ble_eq_true rfl⟩) ⟨rfl, rfl, rfl, rfl, by decide⟩ rfl hK hP hD hS hA (va_recv (ci := 2) hK hP rfl (q0 := 5) rfl) rfl hl.1 (Nat.le_of_ble_eq_true rfl) d_S_learn_139 ⟨Nat.le_of_ble_eq_true rfl, Nat.le_of_ble_eq_true rfl⟩ (fun H locs hP hD hS => ?_)
    have hP : va_P D cls_ [(h, .inr (1, [.ref a1, .ref a2, .ref a3, .ref a4, .int (nI (dz (dk_derive u y))), .int (nI (dl (dk_derive u y))), .int (nI (dO (dk_derive u y)))])), (a1, .inl (cI, 1575, .inl (dC (dk_derive u y)))), (a2, .inl (cI, 1575, .inl (dF (dk_derive u y)))), (a3, .inl (cI, 1575, .inl (dT (dk_derive u y)))), (a4, .inl (cI, 3060, .inl (dK (dk_derive u y)))), (b, .inr (2, [.ref b1, .ref b2, .int (nI (sn (sr_cut s (sr_jump (sT s) (sR s) y (q - 1) (q - 1))))), .int (sh (sr_cut s (sr_jump (sT s) (sR s) y (q - 1) (q - 1))))])), (b1, .inl (cI, 10, .inl (sT (sr_cut s (sr_jump (sT s) (sR s) y (q - 1) (q - 1)))))), (b2, .inl (cI, 10, .inl (sR (sr_cut s (sr_jump (sT s) (sR s) y (q - 1) (q - 1))))))] H := hP
    have hD : va_D A [(h, .inr (1, [.ref a1, .ref a2, .ref a3, .ref a4, .int (nI (dz (dk_derive u y))), .int (nI (dl (dk_derive u y))), .int (nI (dO (dk_derive u y)))])), (a1, .inl (cI, 1575, .inl (dC (dk_derive u y)))), (a2, .inl (cI, 1575, .inl (dF (dk_derive u y)))), (a3, .inl (cI, 1575, .inl (dT (dk_derive u y)))), (a4, .inl (cI, 3060, .inl (dK (dk_derive u y)))), (b, .inr (2, [.ref b1, .ref b2, .int (nI (sn (sr_cut s (sr_jump (sT s) (sR s) y (q - 1) (q - 1))))), .int (sh (sr_cut s (sr_jump (sT s) (sR s) y (q - 1) (q - 1))))])), (b1, .inl (cI, 10, .inl (sT (sr_cut s (sr_jump (sT s) (sR s) y (q - 1) (q - 1)))))), (b2, .inl (cI, 10, .inl (sR (sr_cut s (sr_jump (sT s) (sR s) y (q - 1) (q - 1))))))] := hD
    refine lv_iload hx hb d_S_learn_142 (lv_at hl 0 rfl) ?_
    have hP := hP.sub (ws' := [(b, .inr (2, [.ref b1, .ref b2, .int (nI (sn (sr_cut s (sr_jump (sT s) (sR s) y (q - 1) (q - 1))))), .int (sh (sr_cut s (sr_jump (sT s) (sR s) y (q - 1) (q - 1))))])), (b1, .inl (cI, 10, .inl (sT (sr_cut s (sr_jump (sT s) (sR s) y (q - 1) (q - 1)))))), (b2, .inl (cI, 10, .inl (sR (sr_cut s (sr_jump (sT s) (sR s) y (q - 1) (q - 1)))))), (h, .inr (1, [.ref a1, .ref a2, .ref a3, .ref a4, .int (nI (dz (dk_derive u y))), .int (nI (dl (dk_derive u y))), .int (nI (dO (dk_derive u y)))])), (a1, .inl (cI, 1575, .inl (dC (dk_derive u y)))), (a2, .inl (cI, 1575, .inl (dF (dk_derive u y)))), (a3, .inl (cI, 1575, .inl (dT (dk_derive u y)))), (a4, .inl (cI, 3060, .inl (dK (dk_derive u y))))]) [5, 6, 7, 0, 1, 2, 3, 4] rfl
    have hD := hD.sub (ws' := [(b, .inr (2, [.ref b1, .ref b2, .int (nI (sn (sr_cut s (sr_jump (sT s) (sR s) y (q - 1) (q - 1))))), .int (sh (sr_cut s (sr_jump (sT s) (sR s) y (q - 1) (q - 1))))])), (b1, .inl (cI, 10, .inl (sT (sr_cut s (sr_jump (sT s) (sR s) y (q - 1) (q - 1)))))), (b2, .inl (cI, 10, .inl (sR (sr_cut s (sr_jump (sT s) (sR s) y (q - 1) (q - 1)))))), (h, .inr (1, [.ref a1, .ref a2, .ref a3, .ref a4, .int (nI (dz (dk_derive u y))), .int (nI (dl (dk_derive u y))), .int (nI (dO (dk_derive u y)))])), (a1, .inl (cI, 1575, .inl (dC (dk_derive u y)))), (a2, .inl (cI, 1575, .inl (dF (dk_derive u y)))), (a3, .inl (cI, 1575, .inl (dT (dk_derive u y)))), (a4, .inl (cI, 3060, .inl (dK (dk_derive u y))))]) [5, 6, 7, 0, 1, 2, 3, 4] (by decide) rfl
    exact fin _ _ _ _ _ hP hD hS (rfl) d_S_learn_144
  have loop : ∀ (k : Nat) (y : Int32) (u : DS) (ls : Array Slot) (H : Heap) (locs : List Loc), k ≤ sn s → DW u → sr_res (sT s) (sR s) q la k y u = res → va_P D cls_ [(b, .inr (2, [.ref b1, .ref b2, .int (nI (sn s)), .int (sh s)])), (b1, .inl (cI, 10, .inl (sT s))), (b2, .inl (cI, 10, .inl (sR s))), (h, .inr (1, [.ref a1, .ref a2, .ref a3, .ref a4, .int (nI (dz u)), .int (nI (dl u)), .int (nI (dO u))])), (a1, .inl (cI, 1575, .inl (dC u))), (a2, .inl (cI, 1575, .inl (dF u))), (a3, .inl (cI, 1575, .inl (dT u))), (a4, .inl (cI, 3060, .inl (dK u)))] H → va_D A [(b, .inr (2, [.ref b1, .ref b2, .int (nI (sn s)), .int (sh s)])), (b1, .inl (cI, 10, .inl (sT s))), (b2, .inl (cI, 10, .inl (sR s))), (h, .inr (1, [.ref a1, .ref a2, .ref a3, .ref a4, .int (nI (dz u)), .int (nI (dl u)), .int (nI (dO u))])), (a1, .inl (cI, 1575, .inl (dC u))), (a2, .inl (cI, 1575, .inl (dF u))), (a3, .inl (cI, 1575, .inl (dT u))), (a4, .inl (cI, 3060, .inl (dK u)))] → va_S A st.heap H locs → lv_has ls 8 [(6, .int (nI k - 1)), (5, .int y), (4, .int la), (3, .int (nI q - 1)), (0, .ref b), (1, .ref h)] → W p l e { frames := 2, cells := 0, slots := 0, locals := 46 } st m [Value.ref b, Value.ref h, Value.int x].toArray below meth c H locs 0 0 Q (F0 m 32 ls []) := by
    intro k
    induction k with
    | zero =>
      intro y u ls H locs hk hu he hP hD hS hl
      refine lv_iload hx hb d_S_learn_32 (lv_at hl 0 rfl) ?_
      refine lv_iload_n hx hb d_S_learn_34 rfl (lv_at hl 3 rfl) ?_
      refine lv_icmp_le (tgt := 125) hx hb d_S_learn_35 rfl (fun hc35 => ?_) (fun hc35 => absurd (le_dec0 (q := q) (by omega)) hc35)
      exact ex y u ls H locs hu he hP hD hS (lv_sub hl [1, 3, 4, 5] rfl)
    | succ k ih =>
      intro y u ls H locs hk hu he hP hD hS hl
      rw [nI_pred] at hl
      refine lv_iload hx hb d_S_learn_32 (lv_at hl 0 rfl) ?_
      refine lv_iload_n hx hb d_S_learn_34 rfl (lv_at hl 3 rfl) ?_
      refine lv_icmp_le (tgt := 125) hx hb d_S_learn_35 rfl (fun hc35 => ?_) (fun hc35 => ?_)
      · have hkq : k < q := (le_dec (by omega) (by omega)).1 hc35
        exact ex y u ls H locs hu (by rw [← he, sr_res_s, if_pos hkq]) hP hD hS (lv_sub hl [1, 3, 4, 5] rfl)
      · have hkq : ¬ k < q := fun h => hc35 ((le_dec (by omega) (by omega)).2 h)
        refine lv_iload_n hx hb d_S_learn_38 rfl (lv_at hl 3 rfl) ?_
        refine lv_iconst (v := (-1)) hx hb d_S_learn_39 (by decide) ?_
        refine lv_icmp_eq (tgt := 57) hx hb d_S_learn_40 rfl (fun hc40 => ?_) (fun hc40 => ?_)
        · have hc2 : ¬ (q ≠ 0 ∧ cc_singleB (y &&& la) = true) := fun h => h.1 ((dec_m1 (by omega)).1 hc40)
          refine lv_aload_n hx hb d_S_learn_57 rfl (lv_at hl 4 rfl) ?_
          refine va_get (D := D) (ci := 2) (v := .ref b1) (C := R_S) (T := T_S) (N := 4) hx hb hts u_S hown hK hP 0 rfl rfl 0 (by decide) (hts _ f_S_9) (fun _ h9 => h9) rfl d_S_learn_58 ?_
          refine lv_iload hx hb d_S_learn_61 (lv_at hl 0 rfl) ?_
          refine va_iald (D := D) (i := (nI k)) hx hb hK hP 1 0 rfl rfl (vp_in_nI (show k < 10 by omega) (by decide)) d_S_learn_63 ?_
          rw [show ((nI k) : Int32).toNatClampNeg = k from nI_clamp (by omega)]
          refine CTi_S (isC := []) (isR := [0, 1, 2, 3, 4, 5, 6, 7]) (wr := [(b, .inr (2, [.ref b1, .ref b2, .int (nI (sn s)), .int (sh s)])), (b1, .inl (cI, 10, .inl (sT s))), (b2, .inl (cI, 10, .inl (sR s))), (h, .inr (1, [.ref a1, .ref a2, .ref a3, .ref a4, .int (nI (dz u)), .int (nI (dl u)), .int (nI (dO u))])), (a1, .inl (cI, 1575, .inl (dC u))), (a2, .inl (cI, 1575, .inl (dF u))), (a3, .inl (cI, 1575, .inl (dT u))), (a4, .inl (cI, 3060, .inl (dK u)))]) (wi := []) (wo := []) (As := [.int (sT s k)]) (rest := []) ⟨hx, hb, hml, hown, hts⟩ [] (k_L_opposite l D ((sT s k))) (va_cwS 1 hts v_S_51 rfl rfl rfl (by decide +kernel) ⟨Nat.le_of_ble_eq_true rfl, Nat.le_of_ble_eq_true rfl⟩) ⟨rfl, rfl, rfl, rfl, by decide⟩ rfl hK hP hD hS hA rfl hl.1 (Nat.le_of_ble_eq_true rfl) d_S_learn_64 ⟨Nat.le_of_ble_eq_true rfl, Nat.le_of_ble_eq_true rfl⟩ (fun H locs hP hD hS => ?_)
          have hP : va_P D cls_ [(b, .inr (2, [.ref b1, .ref b2, .int (nI (sn s)), .int (sh s)])), (b1, .inl (cI, 10, .inl (sT s))), (b2, .inl (cI, 10, .inl (sR s))), (h, .inr (1, [.ref a1, .ref a2, .ref a3, .ref a4, .int (nI (dz u)), .int (nI (dl u)), .int (nI (dO u))])), (a1, .inl (cI, 1575, .inl (dC u))), (a2, .inl (cI, 1575, .inl (dF u))), (a3, .inl (cI, 1575, .inl (dT u))), (a4, .inl (cI, 3060, .inl (dK u)))] H := hP
          have hD : va_D A [(b, .inr (2, [.ref b1, .ref b2, .int (nI (sn s)), .int (sh s)])), (b1, .inl (cI, 10, .inl (sT s))), (b2, .inl (cI, 10, .inl (sR s))), (h, .inr (1, [.ref a1, .ref a2, .ref a3, .ref a4, .int (nI (dz u)), .int (nI (dl u)), .int (nI (dO u))])), (a1, .inl (cI, 1575, .inl (dC u))), (a2, .inl (cI, 1575, .inl (dF u))), (a3, .inl (cI, 1575, .inl (dT u))), (a4, .inl (cI, 3060, .inl (dK u)))] := hD
          refine lv_istore (lv' := [(7, .int (cc_neg ((sT s k)))), (6, .int (nI k)), (5, .int y), (4, .int la), (3, .int (nI q - 1)), (0, .ref b), (1, .ref h)]) hx hb d_S_learn_67 hl (by decide) rfl (fun ls hl => ?_)
          refine lv_iload hx hb d_S_learn_69 (lv_at hl 2 rfl) ?_
          refine lv_iload hx hb d_S_learn_71 (lv_at hl 0 rfl) ?_
          refine lv_iand hx hb d_S_learn_73 ?_
          refine lv_if_eq (tgt := 119) hx hb d_S_learn_74 rfl (fun hc74 => ?_) (fun hc74 => ?_)
          · refine lv_iinc (k := 1) (v := (nI k - 1)) (lv' := [(6, .int (nI k - 1)), (7, .int (cc_neg ((sT s k)))), (5, .int y), (4, .int la), (3, .int (nI q - 1)), (0, .ref b), (1, .ref h)]) hx hb d_S_learn_119 hl rfl (im1 _) (by decide) rfl (fun ls hl => ?_)
            refine lv_goto (tgt := 32) hx hb d_S_learn_122 rfl ?_
            exact ih y u ls H locs (by omega) hu (by rw [← he, sr_res_s, if_neg hkq, if_neg hc2, if_pos hc74]) hP hD hS (lv_sub hl [0, 2, 3, 4, 5, 6] rfl)
          · refine lv_iload hx hb d_S_learn_77 (lv_at hl 2 rfl) ?_
            refine lv_iload hx hb d_S_learn_79 (lv_at hl 0 rfl) ?_
            refine lv_iconst (v := (-1)) hx hb d_S_learn_81 (by decide) ?_
            refine lv_ixor hx hb d_S_learn_82 ?_
            refine lv_iand hx hb d_S_learn_83 ?_
            refine lv_aload_n hx hb d_S_learn_84 rfl (lv_at hl 6 rfl) ?_
            refine lv_aload_n hx hb d_S_learn_85 rfl (lv_at hl 5 rfl) ?_
            refine va_get (D := D) (ci := 2) (v := .ref b2) (C := R_S) (T := T_S) (N := 4) hx hb hts u_S hown hK hP 0 rfl rfl 1 (by decide) (hts _ f_S_15) (fun _ h9 => h9) rfl d_S_learn_86 ?_
            refine lv_iload hx hb d_S_learn_89 (lv_at hl 1 rfl) ?_
            refine va_iald (D := D) (i := (nI k)) hx hb hK hP 2 0 rfl rfl (vp_in_nI (show k < 10 by omega) (by decide)) d_S_learn_91 ?_
            rw [show ((nI k) : Int32).toNatClampNeg = k from nI_clamp (by omega)]
            refine CTi_V (isC := [3, 4, 5, 6, 7]) (isR := [0, 1, 2]) (wr := [(b, .inr (2, [.ref b1, .ref b2, .int (nI (sn s)), .int (sh s)])), (b1, .inl (cI, 10, .inl (sT s))), (b2, .inl (cI, 10, .inl (sR s)))]) (wi := [(h, .inr (1, [.ref a1, .ref a2, .ref a3, .ref a4, .int (nI (dz u)), .int (nI (dl u)), .int (nI (dO u))])), (a1, .inl (cI, 1575, .inl (dC u))), (a2, .inl (cI, 1575, .inl (dF u))), (a3, .inl (cI, 1575, .inl (dT u))), (a4, .inl (cI, 3060, .inl (dK u)))]) (wo := [(h, .inr (1, [.ref a1, .ref a2, .ref a3, .ref a4, .int (nI (dz u)), .int (nI (dl u)), .int (nI (dO u))])), (a1, .inl (cI, 1575, .inl (dC u))), (a2, .inl (cI, 1575, .inl (dF u))), (a3, .inl (cI, 1575, .inl (dT u))), (a4, .inl (cI, 3060, .inl (dK u)))]) (b := h) (As := [.int (sR s k)]) (rest := [.int (y &&& ((cc_neg ((sT s k))) ^^^ (-1)))]) ⟨hx, hb, hml, hown, hts⟩ [0] (k_D_clause l D cI h a1 a2 a3 a4 u hu ((sR s k))) (cwV 1 hts v_S_47 rfl rfl rfl (by decide +kernel) ⟨Nat.le_of_ble_eq_true rfl, Nat.le_of_ble_eq_true rfl⟩) ⟨rfl, rfl, rfl, rfl, by decide⟩ rfl hK hP hD hS hA (va_recv (ci := 1) hK hP rfl (q0 := 3) rfl) rfl hl.1 (Nat.le_of_ble_eq_true rfl) d_S_learn_92 ⟨Nat.le_of_ble_eq_true rfl, Nat.le_of_ble_eq_true rfl⟩ (fun H locs hP hD hS => ?_)
            have hP : va_P D cls_ [(b, .inr (2, [.ref b1, .ref b2, .int (nI (sn s)), .int (sh s)])), (b1, .inl (cI, 10, .inl (sT s))), (b2, .inl (cI, 10, .inl (sR s))), (h, .inr (1, [.ref a1, .ref a2, .ref a3, .ref a4, .int (nI (dz u)), .int (nI (dl u)), .int (nI (dO u))])), (a1, .inl (cI, 1575, .inl (dC u))), (a2, .inl (cI, 1575, .inl (dF u))), (a3, .inl (cI, 1575, .inl (dT u))), (a4, .inl (cI, 3060, .inl (dK u)))] H := hP
            have hD : va_D A [(b, .inr (2, [.ref b1, .ref b2, .int (nI (sn s)), .int (sh s)])), (b1, .inl (cI, 10, .inl (sT s))), (b2, .inl (cI, 10, .inl (sR s))), (h, .inr (1, [.ref a1, .ref a2, .ref a3, .ref a4, .int (nI (dz u)), .int (nI (dl u)), .int (nI (dO u))])), (a1, .inl (cI, 1575, .inl (dC u))), (a2, .inl (cI, 1575, .inl (dF u))), (a3, .inl (cI, 1575, .inl (dT u))), (a4, .inl (cI, 3060, .inl (dK u)))] := hD
            refine lv_aload_n hx hb d_S_learn_95 rfl (lv_at hl 5 rfl) ?_
            refine va_get (D := D) (ci := 2) (v := .ref b1) (C := R_S) (T := T_S) (N := 4) hx hb hts u_S hown hK hP 0 rfl rfl 0 (by decide) (hts _ f_S_9) (fun _ h9 => h9) rfl d_S_learn_96 ?_
            refine lv_iload hx hb d_S_learn_99 (lv_at hl 1 rfl) ?_
            refine va_iald (D := D) (i := (nI k)) hx hb hK hP 1 0 rfl rfl (vp_in_nI (show k < 10 by omega) (by decide)) d_S_learn_101 ?_
            rw [show ((nI k) : Int32).toNatClampNeg = k from nI_clamp (by omega)]
            refine lv_iconst (v := (-1)) hx hb d_S_learn_102 (by decide) ?_
            refine lv_ixor hx hb d_S_learn_103 ?_
            refine lv_iand hx hb d_S_learn_104 ?_
            refine lv_ior hx hb d_S_learn_105 ?_
            refine lv_istore (lv' := [(5, .int ((y &&& ((cc_neg ((sT s k))) ^^^ (-1))) ||| ((dk_cl u ((sR s k))) &&& ((sT s k) ^^^ (-1))))), (7, .int (cc_neg ((sT s k)))), (6, .int (nI k)), (4, .int la), (3, .int (nI q - 1)), (0, .ref b), (1, .ref h)]) hx hb d_S_learn_106 hl (by decide) rfl (fun ls hl => ?_)
            refine lv_aload_n hx hb d_S_learn_108 rfl (lv_at hl 6 rfl) ?_
            refine lv_aload_n hx hb d_S_learn_109 rfl (lv_at hl 5 rfl) ?_
            refine va_get (D := D) (ci := 2) (v := .ref b2) (C := R_S) (T := T_S) (N := 4) hx hb hts u_S hown hK hP 0 rfl rfl 1 (by decide) (hts _ f_S_15) (fun _ h9 => h9) rfl d_S_learn_110 ?_
            refine lv_iload hx hb d_S_learn_113 (lv_at hl 2 rfl) ?_
            refine va_iald (D := D) (i := (nI k)) hx hb hK hP 2 0 rfl rfl (vp_in_nI (show k < 10 by omega) (by decide)) d_S_learn_115 ?_
            rw [show ((nI k) : Int32).toNatClampNeg = k from nI_clamp (by omega)]
            refine CTv_V (isC := [3, 4, 5, 6, 7]) (isR := [0, 1, 2]) (wr := [(b, .inr (2, [.ref b1, .ref b2, .int (nI (sn s)), .int (sh s)])), (b1, .inl (cI, 10, .inl (sT s))), (b2, .inl (cI, 10, .inl (sR s)))]) (wi := [(h, .inr (1, [.ref a1, .ref a2, .ref a3, .ref a4, .int (nI (dz u)), .int (nI (dl u)), .int (nI (dO u))])), (a1, .inl (cI, 1575, .inl (dC u))), (a2, .inl (cI, 1575, .inl (dF u))), (a3, .inl (cI, 1575, .inl (dT u))), (a4, .inl (cI, 3060, .inl (dK u)))]) (wo := [(h, .inr (1, [.ref a1, .ref a2, .ref a3, .ref a4, .int (nI (dz (dk_link u ((sR s k))))), .int (nI (dl (dk_link u ((sR s k))))), .int (nI (dO (dk_link u ((sR s k)))))])), (a1, .inl (cI, 1575, .inl (dC (dk_link u ((sR s k)))))), (a2, .inl (cI, 1575, .inl (dF (dk_link u ((sR s k)))))), (a3, .inl (cI, 1575, .inl (dT (dk_link u ((sR s k)))))), (a4, .inl (cI, 3060, .inl (dK (dk_link u ((sR s k))))))]) (b := h) (As := [.int (sR s k)]) (rest := []) ⟨hx, hb, hml, hown, hts⟩ [0] (k_D_link l D cI h a1 a2 a3 a4 u hu ((sR s k))) (cwV 1 hts v_S_73 rfl rfl rfl (by decide +kernel) ⟨Nat.le_of_ble_eq_true rfl, Nat.le_of_ble_eq_true rfl⟩) ⟨rfl, rfl, rfl, rfl, by decide⟩ rfl hK hP hD hS hA (va_recv (ci := 1) hK hP rfl (q0 := 3) rfl) rfl hl.1 (Nat.le_of_ble_eq_true rfl) d_S_learn_116 ⟨Nat.le_of_ble_eq_true rfl, Nat.le_of_ble_eq_true rfl⟩ (fun H locs hP hD hS => ?_)
            have hP : va_P D cls_ [(b, .inr (2, [.ref b1, .ref b2, .int (nI (sn s)), .int (sh s)])), (b1, .inl (cI, 10, .inl (sT s))), (b2, .inl (cI, 10, .inl (sR s))), (h, .inr (1, [.ref a1, .ref a2, .ref a3, .ref a4, .int (nI (dz (dk_link u ((sR s k))))), .int (nI (dl (dk_link u ((sR s k))))), .int (nI (dO (dk_link u ((sR s k)))))])), (a1, .inl (cI, 1575, .inl (dC (dk_link u ((sR s k)))))), (a2, .inl (cI, 1575, .inl (dF (dk_link u ((sR s k)))))), (a3, .inl (cI, 1575, .inl (dT (dk_link u ((sR s k)))))), (a4, .inl (cI, 3060, .inl (dK (dk_link u ((sR s k))))))] H := hP
            have hD : va_D A [(b, .inr (2, [.ref b1, .ref b2, .int (nI (sn s)), .int (sh s)])), (b1, .inl (cI, 10, .inl (sT s))), (b2, .inl (cI, 10, .inl (sR s))), (h, .inr (1, [.ref a1, .ref a2, .ref a3, .ref a4, .int (nI (dz (dk_link u ((sR s k))))), .int (nI (dl (dk_link u ((sR s k))))), .int (nI (dO (dk_link u ((sR s k)))))])), (a1, .inl (cI, 1575, .inl (dC (dk_link u ((sR s k)))))), (a2, .inl (cI, 1575, .inl (dF (dk_link u ((sR s k)))))), (a3, .inl (cI, 1575, .inl (dT (dk_link u ((sR s k)))))), (a4, .inl (cI, 3060, .inl (dK (dk_link u ((sR s k))))))] := hD
            refine lv_iinc (k := 2) (v := (nI k - 1)) (lv' := [(6, .int (nI k - 1)), (5, .int ((y &&& ((cc_neg ((sT s k))) ^^^ (-1))) ||| ((dk_cl u ((sR s k))) &&& ((sT s k) ^^^ (-1))))), (7, .int (cc_neg ((sT s k)))), (4, .int la), (3, .int (nI q - 1)), (0, .ref b), (1, .ref h)]) hx hb d_S_learn_119 hl rfl (im1 _) (by decide) rfl (fun ls hl => ?_)
            refine lv_goto (tgt := 32) hx hb d_S_learn_122 rfl ?_
            exact ih _ (dk_link u (sR s k)) ls H locs (by omega) (DW_link hu) (by rw [← he, sr_res_s, if_neg hkq, if_neg hc2, if_neg hc74]) hP hD hS (lv_sub hl [0, 1, 3, 4, 5, 6] rfl)
        · refine lv_iload hx hb d_S_learn_43 (lv_at hl 1 rfl) ?_
          refine lv_iload hx hb d_S_learn_45 (lv_at hl 2 rfl) ?_
          refine lv_iand hx hb d_S_learn_47 ?_
          refine CTi_S (isC := []) (isR := [0, 1, 2, 3, 4, 5, 6, 7]) (wr := [(b, .inr (2, [.ref b1, .ref b2, .int (nI (sn s)), .int (sh s)])), (b1, .inl (cI, 10, .inl (sT s))), (b2, .inl (cI, 10, .inl (sR s))), (h, .inr (1, [.ref a1, .ref a2, .ref a3, .ref a4, .int (nI (dz u)), .int (nI (dl u)), .int (nI (dO u))])), (a1, .inl (cI, 1575, .inl (dC u))), (a2, .inl (cI, 1575, .inl (dF u))), (a3, .inl (cI, 1575, .inl (dT u))), (a4, .inl (cI, 3060, .inl (dK u)))]) (wi := []) (wo := []) (As := [.int (y &&& la)]) (rest := []) ⟨hx, hb, hml, hown, hts⟩ [] (k_L_isSingle l D ((y &&& la))) (va_cwS 1 hts v_S_56 rfl rfl rfl (by decide +kernel) ⟨Nat.le_of_ble_eq_true rfl, Nat.le_of_ble_eq_true rfl⟩) ⟨rfl, rfl, rfl, rfl, by decide⟩ rfl hK hP hD hS hA rfl hl.1 (Nat.le_of_ble_eq_true rfl) d_S_learn_48 ⟨Nat.le_of_ble_eq_true rfl, Nat.le_of_ble_eq_true rfl⟩ (fun H locs hP hD hS => ?_)
          have hP : va_P D cls_ [(b, .inr (2, [.ref b1, .ref b2, .int (nI (sn s)), .int (sh s)])), (b1, .inl (cI, 10, .inl (sT s))), (b2, .inl (cI, 10, .inl (sR s))), (h, .inr (1, [.ref a1, .ref a2, .ref a3, .ref a4, .int (nI (dz u)), .int (nI (dl u)), .int (nI (dO u))])), (a1, .inl (cI, 1575, .inl (dC u))), (a2, .inl (cI, 1575, .inl (dF u))), (a3, .inl (cI, 1575, .inl (dT u))), (a4, .inl (cI, 3060, .inl (dK u)))] H := hP
          have hD : va_D A [(b, .inr (2, [.ref b1, .ref b2, .int (nI (sn s)), .int (sh s)])), (b1, .inl (cI, 10, .inl (sT s))), (b2, .inl (cI, 10, .inl (sR s))), (h, .inr (1, [.ref a1, .ref a2, .ref a3, .ref a4, .int (nI (dz u)), .int (nI (dl u)), .int (nI (dO u))])), (a1, .inl (cI, 1575, .inl (dC u))), (a2, .inl (cI, 1575, .inl (dF u))), (a3, .inl (cI, 1575, .inl (dT u))), (a4, .inl (cI, 3060, .inl (dK u)))] := hD
          refine lv_if_eq (tgt := 57) hx hb d_S_learn_51 rfl (fun hc51 => ?_) (fun hc51 => ?_)
          · have hc2 : ¬ (q ≠ 0 ∧ cc_singleB (y &&& la) = true) := fun h => it0 hc51 h.2
            refine lv_aload_n hx hb d_S_learn_57 rfl (lv_at hl 4 rfl) ?_
            refine va_get (D := D) (ci := 2) (v := .ref b1) (C := R_S) (T := T_S) (N := 4) hx hb hts u_S hown hK hP 0 rfl rfl 0 (by decide) (hts _ f_S_9) (fun _ h9 => h9) rfl d_S_learn_58 ?_
            refine lv_iload hx hb d_S_learn_61 (lv_at hl 0 rfl) ?_
            refine va_iald (D := D) (i := (nI k)) hx hb hK hP 1 0 rfl rfl (vp_in_nI (show k < 10 by omega) (by decide)) d_S_learn_63 ?_
            rw [show ((nI k) : Int32).toNatClampNeg = k from nI_clamp (by omega)]
            refine CTi_S (isC := []) (isR := [0, 1, 2, 3, 4, 5, 6, 7]) (wr := [(b, .inr (2, [.ref b1, .ref b2, .int (nI (sn s)), .int (sh s)])), (b1, .inl (cI, 10, .inl (sT s))), (b2, .inl (cI, 10, .inl (sR s))), (h, .inr (1, [.ref a1, .ref a2, .ref a3, .ref a4, .int (nI (dz u)), .int (nI (dl u)), .int (nI (dO u))])), (a1, .inl (cI, 1575, .inl (dC u))), (a2, .inl (cI, 1575, .inl (dF u))), (a3, .inl (cI, 1575, .inl (dT u))), (a4, .inl (cI, 3060, .inl (dK u)))]) (wi := []) (wo := []) (As := [.int (sT s k)]) (rest := []) ⟨hx, hb, hml, hown, hts⟩ [] (k_L_opposite l D ((sT s k))) (va_cwS 1 hts v_S_51 rfl rfl rfl (by decide +kernel) ⟨Nat.le_of_ble_eq_true rfl, Nat.le_of_ble_eq_true rfl⟩) ⟨rfl, rfl, rfl, rfl, by decide⟩ rfl hK hP hD hS hA rfl hl.1 (Nat.le_of_ble_eq_true rfl) d_S_learn_64 ⟨Nat.le_of_ble_eq_true rfl, Nat.le_of_ble_eq_true rfl⟩ (fun H locs hP hD hS => ?_)
            have hP : va_P D cls_ [(b, .inr (2, [.ref b1, .ref b2, .int (nI (sn s)), .int (sh s)])), (b1, .inl (cI, 10, .inl (sT s))), (b2, .inl (cI, 10, .inl (sR s))), (h, .inr (1, [.ref a1, .ref a2, .ref a3, .ref a4, .int (nI (dz u)), .int (nI (dl u)), .int (nI (dO u))])), (a1, .inl (cI, 1575, .inl (dC u))), (a2, .inl (cI, 1575, .inl (dF u))), (a3, .inl (cI, 1575, .inl (dT u))), (a4, .inl (cI, 3060, .inl (dK u)))] H := hP
            have hD : va_D A [(b, .inr (2, [.ref b1, .ref b2, .int (nI (sn s)), .int (sh s)])), (b1, .inl (cI, 10, .inl (sT s))), (b2, .inl (cI, 10, .inl (sR s))), (h, .inr (1, [.ref a1, .ref a2, .ref a3, .ref a4, .int (nI (dz u)), .int (nI (dl u)), .int (nI (dO u))])), (a1, .inl (cI, 1575, .inl (dC u))), (a2, .inl (cI, 1575, .inl (dF u))), (a3, .inl (cI, 1575, .inl (dT u))), (a4, .inl (cI, 3060, .inl (dK u)))] := hD
            refine lv_istore (lv' := [(7, .int (cc_neg ((sT s k)))), (6, .int (nI k)), (5, .int y), (4, .int la), (3, .int (nI q - 1)), (0, .ref b), (1, .ref h)]) hx hb d_S_learn_67 hl (by decide) rfl (fun ls hl => ?_)
            refine lv_iload hx hb d_S_learn_69 (lv_at hl 2 rfl) ?_
            refine lv_iload hx hb d_S_learn_71 (lv_at hl 0 rfl) ?_
            refine lv_iand hx hb d_S_learn_73 ?_
            refine lv_if_eq (tgt := 119) hx hb d_S_learn_74 rfl (fun hc74 => ?_) (fun hc74 => ?_)
            · refine lv_iinc (k := 1) (v := (nI k - 1)) (lv' := [(6, .int (nI k - 1)), (7, .int (cc_neg ((sT s k)))), (5, .int y), (4, .int la), (3, .int (nI q - 1)), (0, .ref b), (1, .ref h)]) hx hb d_S_learn_119 hl rfl (im1 _) (by decide) rfl (fun ls hl => ?_)
              refine lv_goto (tgt := 32) hx hb d_S_learn_122 rfl ?_
              exact ih y u ls H locs (by omega) hu (by rw [← he, sr_res_s, if_neg hkq, if_neg hc2, if_pos hc74]) hP hD hS (lv_sub hl [0, 2, 3, 4, 5, 6] rfl)
            · refine lv_iload hx hb d_S_learn_77 (lv_at hl 2 rfl) ?_
              refine lv_iload hx hb d_S_learn_79 (lv_at hl 0 rfl) ?_
              refine lv_iconst (v := (-1)) hx hb d_S_learn_81 (by decide) ?_
              refine lv_ixor hx hb d_S_learn_82 ?_
              refine lv_iand hx hb d_S_learn_83 ?_
              refine lv_aload_n hx hb d_S_learn_84 rfl (lv_at hl 6 rfl) ?_
              refine lv_aload_n hx hb d_S_learn_85 rfl (lv_at hl 5 rfl) ?_
              refine va_get (D := D) (ci := 2) (v := .ref b2) (C := R_S) (T := T_S) (N := 4) hx hb hts u_S hown hK hP 0 rfl rfl 1 (by decide) (hts _ f_S_15) (fun _ h9 => h9) rfl d_S_learn_86 ?_
              refine lv_iload hx hb d_S_learn_89 (lv_at hl 1 rfl) ?_
              refine va_iald (D := D) (i := (nI k)) hx hb hK hP 2 0 rfl rfl (vp_in_nI (show k < 10 by omega) (by decide)) d_S_learn_91 ?_
              rw [show ((nI k) : Int32).toNatClampNeg = k from nI_clamp (by omega)]
              refine CTi_V (isC := [3, 4, 5, 6, 7]) (isR := [0, 1, 2]) (wr := [(b, .inr (2, [.ref b1, .ref b2, .int (nI (sn s)), .int (sh s)])), (b1, .inl (cI, 10, .inl (sT s))), (b2, .inl (cI, 10, .inl (sR s)))]) (wi := [(h, .inr (1, [.ref a1, .ref a2, .ref a3, .ref a4, .int (nI (dz u)), .int (nI (dl u)), .int (nI (dO u))])), (a1, .inl (cI, 1575, .inl (dC u))), (a2, .inl (cI, 1575, .inl (dF u))), (a3, .inl (cI, 1575, .inl (dT u))), (a4, .inl (cI, 3060, .inl (dK u)))]) (wo := [(h, .inr (1, [.ref a1, .ref a2, .ref a3, .ref a4, .int (nI (dz u)), .int (nI (dl u)), .int (nI (dO u))])), (a1, .inl (cI, 1575, .inl (dC u))), (a2, .inl (cI, 1575, .inl (dF u))), (a3, .inl (cI, 1575, .inl (dT u))), (a4, .inl (cI, 3060, .inl (dK u)))]) (b := h) (As := [.int (sR s k)]) (rest := [.int (y &&& ((cc_neg ((sT s k))) ^^^ (-1)))]) ⟨hx, hb, hml, hown, hts⟩ [0] (k_D_clause l D cI h a1 a2 a3 a4 u hu ((sR s k))) (cwV 1 hts v_S_47 rfl rfl rfl (by decide +kernel) ⟨Nat.le_of_ble_eq_true rfl, Nat.le_of_ble_eq_true rfl⟩) ⟨rfl, rfl, rfl, rfl, by decide⟩ rfl hK hP hD hS hA (va_recv (ci := 1) hK hP rfl (q0 := 3) rfl) rfl hl.1 (Nat.le_of_ble_eq_true rfl) d_S_learn_92 ⟨Nat.le_of_ble_eq_true rfl, Nat.le_of_ble_eq_true rfl⟩ (fun H locs hP hD hS => ?_)
              have hP : va_P D cls_ [(b, .inr (2, [.ref b1, .ref b2, .int (nI (sn s)), .int (sh s)])), (b1, .inl (cI, 10, .inl (sT s))), (b2, .inl (cI, 10, .inl (sR s))), (h, .inr (1, [.ref a1, .ref a2, .ref a3, .ref a4, .int (nI (dz u)), .int (nI (dl u)), .int (nI (dO u))])), (a1, .inl (cI, 1575, .inl (dC u))), (a2, .inl (cI, 1575, .inl (dF u))), (a3, .inl (cI, 1575, .inl (dT u))), (a4, .inl (cI, 3060, .inl (dK u)))] H := hP
              have hD : va_D A [(b, .inr (2, [.ref b1, .ref b2, .int (nI (sn s)), .int (sh s)])), (b1, .inl (cI, 10, .inl (sT s))), (b2, .inl (cI, 10, .inl (sR s))), (h, .inr (1, [.ref a1, .ref a2, .ref a3, .ref a4, .int (nI (dz u)), .int (nI (dl u)), .int (nI (dO u))])), (a1, .inl (cI, 1575, .inl (dC u))), (a2, .inl (cI, 1575, .inl (dF u))), (a3, .inl (cI, 1575, .inl (dT u))), (a4, .inl (cI, 3060, .inl (dK u)))] := hD
              refine lv_aload_n hx hb d_S_learn_95 rfl (lv_at hl 5 rfl) ?_
              refine va_get (D := D) (ci := 2) (v := .ref b1) (C := R_S) (T := T_S) (N := 4) hx hb hts u_S hown hK hP 0 rfl rfl 0 (by decide) (hts _ f_S_9) (fun _ h9 => h9) rfl d_S_learn_96 ?_
              refine lv_iload hx hb d_S_learn_99 (lv_at hl 1 rfl) ?_
              refine va_iald (D := D) (i := (nI k)) hx hb hK hP 1 0 rfl rfl (vp_in_nI (show k < 10 by omega) (by decide)) d_S_learn_101 ?_
              rw [show ((nI k) : Int32).toNatClampNeg = k from nI_clamp (by omega)]
              refine lv_iconst (v := (-1)) hx hb d_S_learn_102 (by decide) ?_
              refine lv_ixor hx hb d_S_learn_103 ?_
              refine lv_iand hx hb d_S_learn_104 ?_
              refine lv_ior hx hb d_S_learn_105 ?_
              refine lv_istore (lv' := [(5, .int ((y &&& ((cc_neg ((sT s k))) ^^^ (-1))) ||| ((dk_cl u ((sR s k))) &&& ((sT s k) ^^^ (-1))))), (7, .int (cc_neg ((sT s k)))), (6, .int (nI k)), (4, .int la), (3, .int (nI q - 1)), (0, .ref b), (1, .ref h)]) hx hb d_S_learn_106 hl (by decide) rfl (fun ls hl => ?_)
              refine lv_aload_n hx hb d_S_learn_108 rfl (lv_at hl 6 rfl) ?_
              refine lv_aload_n hx hb d_S_learn_109 rfl (lv_at hl 5 rfl) ?_
              refine va_get (D := D) (ci := 2) (v := .ref b2) (C := R_S) (T := T_S) (N := 4) hx hb hts u_S hown hK hP 0 rfl rfl 1 (by decide) (hts _ f_S_15) (fun _ h9 => h9) rfl d_S_learn_110 ?_
              refine lv_iload hx hb d_S_learn_113 (lv_at hl 2 rfl) ?_
              refine va_iald (D := D) (i := (nI k)) hx hb hK hP 2 0 rfl rfl (vp_in_nI (show k < 10 by omega) (by decide)) d_S_learn_115 ?_
              rw [show ((nI k) : Int32).toNatClampNeg = k from nI_clamp (by omega)]
              refine CTv_V (isC := [3, 4, 5, 6, 7]) (isR := [0, 1, 2]) (wr := [(b, .inr (2, [.ref b1, .ref b2, .int (nI (sn s)), .int (sh s)])), (b1, .inl (cI, 10, .inl (sT s))), (b2, .inl (cI, 10, .inl (sR s)))]) (wi := [(h, .inr (1, [.ref a1, .ref a2, .ref a3, .ref a4, .int (nI (dz u)), .int (nI (dl u)), .int (nI (dO u))])), (a1, .inl (cI, 1575, .inl (dC u))), (a2, .inl (cI, 1575, .inl (dF u))), (a3, .inl (cI, 1575, .inl (dT u))), (a4, .inl (cI, 3060, .inl (dK u)))]) (wo := [(h, .inr (1, [.ref a1, .ref a2, .ref a3, .ref a4, .int (nI (dz (dk_link u ((sR s k))))), .int (nI (dl (dk_link u ((sR s k))))), .int (nI (dO (dk_link u ((sR s k)))))])), (a1, .inl (cI, 1575, .inl (dC (dk_link u ((sR s k)))))), (a2, .inl (cI, 1575, .inl (dF (dk_link u ((sR s k)))))), (a3, .inl (cI, 1575, .inl (dT (dk_link u ((sR s k)))))), (a4, .inl (cI, 3060, .inl (dK (dk_link u ((sR s k))))))]) (b := h) (As := [.int (sR s k)]) (rest := []) ⟨hx, hb, hml, hown, hts⟩ [0] (k_D_link l D cI h a1 a2 a3 a4 u hu ((sR s k))) (cwV 1 hts v_S_73 rfl rfl rfl (by decide +kernel) ⟨Nat.le_of_ble_eq_true rfl, Nat.le_of_ble_eq_true rfl⟩) ⟨rfl, rfl, rfl, rfl, by decide⟩ rfl hK hP hD hS hA (va_recv (ci := 1) hK hP rfl (q0 := 3) rfl) rfl hl.1 (Nat.le_of_ble_eq_true rfl) d_S_learn_116 ⟨Nat.le_of_ble_eq_true rfl, Nat.le_of_ble_eq_true rfl⟩ (fun H locs hP hD hS => ?_)
              have hP : va_P D cls_ [(b, .inr (2, [.ref b1, .ref b2, .int (nI (sn s)), .int (sh s)])), (b1, .inl (cI, 10, .inl (sT s))), (b2, .inl (cI, 10, .inl (sR s))), (h, .inr (1, [.ref a1, .ref a2, .ref a3, .ref a4, .int (nI (dz (dk_link u ((sR s k))))), .int (nI (dl (dk_link u ((sR s k))))), .int (nI (dO (dk_link u ((sR s k)))))])), (a1, .inl (cI, 1575, .inl (dC (dk_link u ((sR s k)))))), (a2, .inl (cI, 1575, .inl (dF (dk_link u ((sR s k)))))), (a3, .inl (cI, 1575, .inl (dT (dk_link u ((sR s k)))))), (a4, .inl (cI, 3060, .inl (dK (dk_link u ((sR s k))))))] H := hP
              have hD : va_D A [(b, .inr (2, [.ref b1, .ref b2, .int (nI (sn s)), .int (sh s)])), (b1, .inl (cI, 10, .inl (sT s))), (b2, .inl (cI, 10, .inl (sR s))), (h, .inr (1, [.ref a1, .ref a2, .ref a3, .ref a4, .int (nI (dz (dk_link u ((sR s k))))), .int (nI (dl (dk_link u ((sR s k))))), .int (nI (dO (dk_link u ((sR s k)))))])), (a1, .inl (cI, 1575, .inl (dC (dk_link u ((sR s k)))))), (a2, .inl (cI, 1575, .inl (dF (dk_link u ((sR s k)))))), (a3, .inl (cI, 1575, .inl (dT (dk_link u ((sR s k)))))), (a4, .inl (cI, 3060, .inl (dK (dk_link u ((sR s k))))))] := hD
              refine lv_iinc (k := 2) (v := (nI k - 1)) (lv' := [(6, .int (nI k - 1)), (5, .int ((y &&& ((cc_neg ((sT s k))) ^^^ (-1))) ||| ((dk_cl u ((sR s k))) &&& ((sT s k) ^^^ (-1))))), (7, .int (cc_neg ((sT s k)))), (4, .int la), (3, .int (nI q - 1)), (0, .ref b), (1, .ref h)]) hx hb d_S_learn_119 hl rfl (im1 _) (by decide) rfl (fun ls hl => ?_)
              refine lv_goto (tgt := 32) hx hb d_S_learn_122 rfl ?_
              exact ih _ (dk_link u (sR s k)) ls H locs (by omega) (DW_link hu) (by rw [← he, sr_res_s, if_neg hkq, if_neg hc2, if_neg hc74]) hP hD hS (lv_sub hl [0, 1, 3, 4, 5, 6] rfl)
          · have hc2 : q ≠ 0 ∧ cc_singleB (y &&& la) = true := ⟨fun h => hc40 ((dec_m1 (by omega)).2 h), it1 hc51⟩
            refine lv_goto (tgt := 125) hx hb d_S_learn_54 rfl ?_
            exact ex y u ls H locs hu (by rw [← he, sr_res_s, if_neg hkq, if_pos hc2]) hP hD hS (lv_sub hl [1, 3, 4, 5] rfl)
  refine lv_aload_n hx hb d_S_learn_0 rfl (lv_at hl 0 rfl) ?_
  refine CTi_V (isC := [0, 1, 2]) (isR := [3, 4, 5, 6, 7]) (wr := [(h, .inr (1, [.ref a1, .ref a2, .ref a3, .ref a4, .int (nI (dz d)), .int (nI (dl d)), .int (nI (dO d))])), (a1, .inl (cI, 1575, .inl (dC d))), (a2, .inl (cI, 1575, .inl (dF d))), (a3, .inl (cI, 1575, .inl (dT d))), (a4, .inl (cI, 3060, .inl (dK d)))]) (wi := [(b, .inr (2, [.ref b1, .ref b2, .int (nI (sn s)), .int (sh s)])), (b1, .inl (cI, 10, .inl (sT s))), (b2, .inl (cI, 10, .inl (sR s)))]) (wo := [(b, .inr (2, [.ref b1, .ref b2, .int (nI (sn s)), .int (sh s)])), (b1, .inl (cI, 10, .inl (sT s))), (b2, .inl (cI, 10, .inl (sR s)))]) (b := b) (As := []) (rest := []) ⟨hx, hb, hml, hown, hts⟩ [0] (k_S_latestDecision l D cI b b1 b2 s hs) (cwV 0 hts v_S_67 rfl rfl rfl (by decide +kernel) ⟨Nat.le_of_ble_eq_true rfl, Nat.le_of_ble_eq_true rfl⟩) ⟨rfl, rfl, rfl, rfl, by decide⟩ rfl hK hP hD hS hA (va_recv (ci := 2) hK hP rfl (q0 := 0) rfl) rfl hl.1 (Nat.le_of_ble_eq_true rfl) d_S_learn_1 ⟨Nat.le_of_ble_eq_true rfl, Nat.le_of_ble_eq_true rfl⟩ (fun H locs hP hD hS => ?_)
  have hP : va_P D cls_ [(h, .inr (1, [.ref a1, .ref a2, .ref a3, .ref a4, .int (nI (dz d)), .int (nI (dl d)), .int (nI (dO d))])), (a1, .inl (cI, 1575, .inl (dC d))), (a2, .inl (cI, 1575, .inl (dF d))), (a3, .inl (cI, 1575, .inl (dT d))), (a4, .inl (cI, 3060, .inl (dK d))), (b, .inr (2, [.ref b1, .ref b2, .int (nI (sn s)), .int (sh s)])), (b1, .inl (cI, 10, .inl (sT s))), (b2, .inl (cI, 10, .inl (sR s)))] H := hP
  have hD : va_D A [(h, .inr (1, [.ref a1, .ref a2, .ref a3, .ref a4, .int (nI (dz d)), .int (nI (dl d)), .int (nI (dO d))])), (a1, .inl (cI, 1575, .inl (dC d))), (a2, .inl (cI, 1575, .inl (dF d))), (a3, .inl (cI, 1575, .inl (dT d))), (a4, .inl (cI, 3060, .inl (dK d))), (b, .inr (2, [.ref b1, .ref b2, .int (nI (sn s)), .int (sh s)])), (b1, .inl (cI, 10, .inl (sT s))), (b2, .inl (cI, 10, .inl (sR s)))] := hD
  rw [hLD]
  refine lv_istore_n (lv' := [(3, .int (nI q - 1)), (0, .ref b), (1, .ref h), (2, .int x)]) hx hb d_S_learn_4 rfl hl (by decide) rfl (fun ls hl => ?_)
  refine lv_aload_n hx hb d_S_learn_5 rfl (lv_at hl 1 rfl) ?_
  refine lv_iload_n hx hb d_S_learn_6 rfl (lv_at hl 0 rfl) ?_
  refine CTi_V (isC := [5, 6, 7]) (isR := [0, 1, 2, 3, 4]) (wr := [(h, .inr (1, [.ref a1, .ref a2, .ref a3, .ref a4, .int (nI (dz d)), .int (nI (dl d)), .int (nI (dO d))])), (a1, .inl (cI, 1575, .inl (dC d))), (a2, .inl (cI, 1575, .inl (dF d))), (a3, .inl (cI, 1575, .inl (dT d))), (a4, .inl (cI, 3060, .inl (dK d)))]) (wi := [(b, .inr (2, [.ref b1, .ref b2, .int (nI (sn s)), .int (sh s)])), (b1, .inl (cI, 10, .inl (sT s))), (b2, .inl (cI, 10, .inl (sR s)))]) (wo := [(b, .inr (2, [.ref b1, .ref b2, .int (nI (sn s)), .int (sh s)])), (b1, .inl (cI, 10, .inl (sT s))), (b2, .inl (cI, 10, .inl (sR s)))]) (b := b) (As := [.int (nI q - 1)]) (rest := []) ⟨hx, hb, hml, hown, hts⟩ [0] (k_S_deniedFrom l D cI b b1 b2 s hs (nI q - 1) q hq0 rfl) (cwV 1 hts v_S_70 rfl rfl rfl (by decide +kernel) ⟨Nat.le_of_ble_eq_true rfl, Nat.le_of_ble_eq_true rfl⟩) ⟨rfl, rfl, rfl, rfl, by decide⟩ rfl hK hP hD hS hA (va_recv (ci := 2) hK hP rfl (q0 := 5) rfl) rfl hl.1 (Nat.le_of_ble_eq_true rfl) d_S_learn_7 ⟨Nat.le_of_ble_eq_true rfl, Nat.le_of_ble_eq_true rfl⟩ (fun H locs hP hD hS => ?_)
  have hP : va_P D cls_ [(h, .inr (1, [.ref a1, .ref a2, .ref a3, .ref a4, .int (nI (dz d)), .int (nI (dl d)), .int (nI (dO d))])), (a1, .inl (cI, 1575, .inl (dC d))), (a2, .inl (cI, 1575, .inl (dF d))), (a3, .inl (cI, 1575, .inl (dT d))), (a4, .inl (cI, 3060, .inl (dK d))), (b, .inr (2, [.ref b1, .ref b2, .int (nI (sn s)), .int (sh s)])), (b1, .inl (cI, 10, .inl (sT s))), (b2, .inl (cI, 10, .inl (sR s)))] H := hP
  have hD : va_D A [(h, .inr (1, [.ref a1, .ref a2, .ref a3, .ref a4, .int (nI (dz d)), .int (nI (dl d)), .int (nI (dO d))])), (a1, .inl (cI, 1575, .inl (dC d))), (a2, .inl (cI, 1575, .inl (dF d))), (a3, .inl (cI, 1575, .inl (dT d))), (a4, .inl (cI, 3060, .inl (dK d))), (b, .inr (2, [.ref b1, .ref b2, .int (nI (sn s)), .int (sh s)])), (b1, .inl (cI, 10, .inl (sT s))), (b2, .inl (cI, 10, .inl (sR s)))] := hD
  rw [show cc_neg (sr_or (sT s) (sn s - (q - 1)) (q - 1) 0) = la from by rw [← hLA, ← hLD]; rfl]
  refine lv_istore (lv' := [(4, .int la), (3, .int (nI q - 1)), (0, .ref b), (1, .ref h), (2, .int x)]) hx hb d_S_learn_10 hl (by decide) rfl (fun ls hl => ?_)
  refine lv_aload_n hx hb d_S_learn_12 rfl (lv_at hl 3 rfl) ?_
  refine lv_iload_n hx hb d_S_learn_13 rfl (lv_at hl 4 rfl) ?_
  refine CTi_V (isC := [0, 1, 2, 3, 4]) (isR := [5, 6, 7]) (wr := [(b, .inr (2, [.ref b1, .ref b2, .int (nI (sn s)), .int (sh s)])), (b1, .inl (cI, 10, .inl (sT s))), (b2, .inl (cI, 10, .inl (sR s)))]) (wi := [(h, .inr (1, [.ref a1, .ref a2, .ref a3, .ref a4, .int (nI (dz d)), .int (nI (dl d)), .int (nI (dO d))])), (a1, .inl (cI, 1575, .inl (dC d))), (a2, .inl (cI, 1575, .inl (dF d))), (a3, .inl (cI, 1575, .inl (dT d))), (a4, .inl (cI, 3060, .inl (dK d)))]) (wo := [(h, .inr (1, [.ref a1, .ref a2, .ref a3, .ref a4, .int (nI (dz d)), .int (nI (dl d)), .int (nI (dO d))])), (a1, .inl (cI, 1575, .inl (dC d))), (a2, .inl (cI, 1575, .inl (dF d))), (a3, .inl (cI, 1575, .inl (dT d))), (a4, .inl (cI, 3060, .inl (dK d)))]) (b := h) (As := [.int x]) (rest := []) ⟨hx, hb, hml, hown, hts⟩ [0] (k_D_clause l D cI h a1 a2 a3 a4 d hd (x)) (cwV 1 hts v_S_47 rfl rfl rfl (by decide +kernel) ⟨Nat.le_of_ble_eq_true rfl, Nat.le_of_ble_eq_true rfl⟩) ⟨rfl, rfl, rfl, rfl, by decide⟩ rfl hK hP hD hS hA (va_recv (ci := 1) hK hP rfl (q0 := 0) rfl) rfl hl.1 (Nat.le_of_ble_eq_true rfl) d_S_learn_14 ⟨Nat.le_of_ble_eq_true rfl, Nat.le_of_ble_eq_true rfl⟩ (fun H locs hP hD hS => ?_)
  have hP : va_P D cls_ [(b, .inr (2, [.ref b1, .ref b2, .int (nI (sn s)), .int (sh s)])), (b1, .inl (cI, 10, .inl (sT s))), (b2, .inl (cI, 10, .inl (sR s))), (h, .inr (1, [.ref a1, .ref a2, .ref a3, .ref a4, .int (nI (dz d)), .int (nI (dl d)), .int (nI (dO d))])), (a1, .inl (cI, 1575, .inl (dC d))), (a2, .inl (cI, 1575, .inl (dF d))), (a3, .inl (cI, 1575, .inl (dT d))), (a4, .inl (cI, 3060, .inl (dK d)))] H := hP
  have hD : va_D A [(b, .inr (2, [.ref b1, .ref b2, .int (nI (sn s)), .int (sh s)])), (b1, .inl (cI, 10, .inl (sT s))), (b2, .inl (cI, 10, .inl (sR s))), (h, .inr (1, [.ref a1, .ref a2, .ref a3, .ref a4, .int (nI (dz d)), .int (nI (dl d)), .int (nI (dO d))])), (a1, .inl (cI, 1575, .inl (dC d))), (a2, .inl (cI, 1575, .inl (dF d))), (a3, .inl (cI, 1575, .inl (dT d))), (a4, .inl (cI, 3060, .inl (dK d)))] := hD
  refine lv_istore (lv' := [(5, .int (dk_cl d (x))), (4, .int la), (3, .int (nI q - 1)), (0, .ref b), (1, .ref h), (2, .int x)]) hx hb d_S_learn_17 hl (by decide) rfl (fun ls hl => ?_)
  refine lv_aload_n hx hb d_S_learn_19 rfl (lv_at hl 4 rfl) ?_
  refine lv_iload_n hx hb d_S_learn_20 rfl (lv_at hl 5 rfl) ?_
  refine CTv_V (isC := [3, 4, 5, 6, 7]) (isR := [0, 1, 2]) (wr := [(b, .inr (2, [.ref b1, .ref b2, .int (nI (sn s)), .int (sh s)])), (b1, .inl (cI, 10, .inl (sT s))), (b2, .inl (cI, 10, .inl (sR s)))]) (wi := [(h, .inr (1, [.ref a1, .ref a2, .ref a3, .ref a4, .int (nI (dz d)), .int (nI (dl d)), .int (nI (dO d))])), (a1, .inl (cI, 1575, .inl (dC d))), (a2, .inl (cI, 1575, .inl (dF d))), (a3, .inl (cI, 1575, .inl (dT d))), (a4, .inl (cI, 3060, .inl (dK d)))]) (wo := [(h, .inr (1, [.ref a1, .ref a2, .ref a3, .ref a4, .int (nI (dz (dk_link d x))), .int (nI (dl (dk_link d x))), .int (nI (dO (dk_link d x)))])), (a1, .inl (cI, 1575, .inl (dC (dk_link d x)))), (a2, .inl (cI, 1575, .inl (dF (dk_link d x)))), (a3, .inl (cI, 1575, .inl (dT (dk_link d x)))), (a4, .inl (cI, 3060, .inl (dK (dk_link d x))))]) (b := h) (As := [.int x]) (rest := []) ⟨hx, hb, hml, hown, hts⟩ [0] (k_D_link l D cI h a1 a2 a3 a4 d hd x) (cwV 1 hts v_S_73 rfl rfl rfl (by decide +kernel) ⟨Nat.le_of_ble_eq_true rfl, Nat.le_of_ble_eq_true rfl⟩) ⟨rfl, rfl, rfl, rfl, by decide⟩ rfl hK hP hD hS hA (va_recv (ci := 1) hK hP rfl (q0 := 3) rfl) rfl hl.1 (Nat.le_of_ble_eq_true rfl) d_S_learn_21 ⟨Nat.le_of_ble_eq_true rfl, Nat.le_of_ble_eq_true rfl⟩ (fun H locs hP hD hS => ?_)
  have hP : va_P D cls_ [(b, .inr (2, [.ref b1, .ref b2, .int (nI (sn s)), .int (sh s)])), (b1, .inl (cI, 10, .inl (sT s))), (b2, .inl (cI, 10, .inl (sR s))), (h, .inr (1, [.ref a1, .ref a2, .ref a3, .ref a4, .int (nI (dz (dk_link d x))), .int (nI (dl (dk_link d x))), .int (nI (dO (dk_link d x)))])), (a1, .inl (cI, 1575, .inl (dC (dk_link d x)))), (a2, .inl (cI, 1575, .inl (dF (dk_link d x)))), (a3, .inl (cI, 1575, .inl (dT (dk_link d x)))), (a4, .inl (cI, 3060, .inl (dK (dk_link d x))))] H := hP
  have hD : va_D A [(b, .inr (2, [.ref b1, .ref b2, .int (nI (sn s)), .int (sh s)])), (b1, .inl (cI, 10, .inl (sT s))), (b2, .inl (cI, 10, .inl (sR s))), (h, .inr (1, [.ref a1, .ref a2, .ref a3, .ref a4, .int (nI (dz (dk_link d x))), .int (nI (dl (dk_link d x))), .int (nI (dO (dk_link d x)))])), (a1, .inl (cI, 1575, .inl (dC (dk_link d x)))), (a2, .inl (cI, 1575, .inl (dF (dk_link d x)))), (a3, .inl (cI, 1575, .inl (dT (dk_link d x)))), (a4, .inl (cI, 3060, .inl (dK (dk_link d x))))] := hD
  refine lv_aload_n hx hb d_S_learn_24 rfl (lv_at hl 3 rfl) ?_
  refine va_get (D := D) (ci := 2) (v := .int (nI (sn s))) (C := R_S) (T := T_S) (N := 4) hx hb hts u_S hown hK hP 0 rfl rfl 2 (by decide) (hts _ f_S_18) (fun _ h9 => h9) rfl d_S_learn_25 ?_
  refine lv_iconst (v := 1) hx hb d_S_learn_28 (by decide) ?_
  refine lv_isub hx hb d_S_learn_29 ?_
  refine lv_istore (lv' := [(6, .int ((nI (sn s)) - 1)), (5, .int (dk_cl d (x))), (4, .int la), (3, .int (nI q - 1)), (0, .ref b), (1, .ref h), (2, .int x)]) hx hb d_S_learn_30 hl (by decide) rfl (fun ls hl => ?_)
  exact loop (sn s) (dk_cl d x) (dk_link d x) ls H locs (Nat.le_refl _) (DW_link hd) hT hP hD hS (lv_sub hl [0, 1, 2, 3, 4, 5] rfl)
set_option maxHeartbeats 4000000 in
set_option maxRecDepth 100000 in
theorem k_S_findModel (l : Launch) (D : va_G) (cI : ClassId) (b b1 b2 h a1 a2 a3 a4 : Nat) (s : SS) (hs : sn s ≤ 10) (d : DS) (hd : DW d) (x : Int32) (n : Nat) (hn : n ≤ 10) (hx9 : x = nI n) : KTi l y_S_findModel c_S_findModel 5 .boolean { frames := 4, cells := 0, slots := 0, locals := 92 } D [(cI, .int)] [.ref b, .ref h, .int x] (wX cI b b1 b2 h a1 a2 a3 a4 s d) (if (sr_find n 100000 d s).1 = true then 1 else 0) (wX cI b b1 b2 h a1 a2 a3 a4 (sr_find n 100000 d s).2.2 (sr_find n 100000 d s).2.1) := by
  refine KTi_of (own := R_S) (by decide +kernel) rfl (Nat.le_of_ble_eq_true rfl) (nar_if _) ?_
  intro p e st m below meth c A ls Q hx hb hml hts hown hK hP hD hS hA hl fin
  subst hx9
  generalize hT : sr_find n 100000 d s = res at fin
  have loop : ∀ (f q : Nat) (v : SS) (u : DS) (ls : Array Slot) (H : Heap) (locs : List Loc), q + f = 100000 → sn v ≤ 10 → DW u → sr_find n f u v = res → va_P D cls_ [(b, .inr (2, [.ref b1, .ref b2, .int (nI (sn v)), .int (sh v)])), (b1, .inl (cI, 10, .inl (sT v))), (b2, .inl (cI, 10, .inl (sR v))), (h, .inr (1, [.ref a1, .ref a2, .ref a3, .ref a4, .int (nI (dz u)), .int (nI (dl u)), .int (nI (dO u))])), (a1, .inl (cI, 1575, .inl (dC u))), (a2, .inl (cI, 1575, .inl (dF u))), (a3, .inl (cI, 1575, .inl (dT u))), (a4, .inl (cI, 3060, .inl (dK u)))] H → va_D A [(b, .inr (2, [.ref b1, .ref b2, .int (nI (sn v)), .int (sh v)])), (b1, .inl (cI, 10, .inl (sT v))), (b2, .inl (cI, 10, .inl (sR v))), (h, .inr (1, [.ref a1, .ref a2, .ref a3, .ref a4, .int (nI (dz u)), .int (nI (dl u)), .int (nI (dO u))])), (a1, .inl (cI, 1575, .inl (dC u))), (a2, .inl (cI, 1575, .inl (dF u))), (a3, .inl (cI, 1575, .inl (dT u))), (a4, .inl (cI, 3060, .inl (dK u)))] → va_S A st.heap H locs → lv_has ls 5 [(3, .int (nI q)), (0, .ref b), (1, .ref h), (2, .int (nI n))] → W p l e { frames := 4, cells := 0, slots := 0, locals := 92 } st m [Value.ref b, Value.ref h, Value.int (nI n)].toArray below meth c H locs 0 0 Q (F0 m 2 ls []) := by
    intro f
    induction f with
    | zero =>
      intro q v u ls H locs hi hv hu he hP hD hS hl
      have he : (false, u, v) = res := he
      subst he
      refine lv_iload_n hx hb d_S_findModel_2 rfl (lv_at hl 0 rfl) ?_
      refine lv_ldc (v := 100000) hx hb hown (hts _ g_S_25) d_S_findModel_3 ?_
      refine lv_icmp_ge (tgt := 57) hx hb d_S_findModel_5 rfl (fun hc5 => ?_) (fun hc5 => absurd (nI_le (a := 100000) (by omega) (by omega)) hc5)
      refine lv_iconst (v := 0) hx hb d_S_findModel_57 (by decide) ?_
      exact fin _ _ _ _ _ hP hD hS (rfl) d_S_findModel_58
    | succ f ih =>
      intro q v u ls H locs hi hv hu he hP hD hS hl
      refine lv_iload_n hx hb d_S_findModel_2 rfl (lv_at hl 0 rfl) ?_
      refine lv_ldc (v := 100000) hx hb hown (hts _ g_S_25) d_S_findModel_3 ?_
      refine lv_icmp_ge (tgt := 57) hx hb d_S_findModel_5 rfl (fun hc5 => absurd hc5 (nI_ge (b := 100000) (by omega) (by decide))) (fun hc5 => ?_)
      refine lv_aload_n hx hb d_S_findModel_8 rfl (lv_at hl 1 rfl) ?_
      refine lv_aload_n hx hb d_S_findModel_9 rfl (lv_at hl 2 rfl) ?_
      refine CTi_V (isC := [0, 1, 2, 3, 4, 5, 6, 7]) (isR := []) (wr := []) (wi := [(b, .inr (2, [.ref b1, .ref b2, .int (nI (sn v)), .int (sh v)])), (b1, .inl (cI, 10, .inl (sT v))), (b2, .inl (cI, 10, .inl (sR v))), (h, .inr (1, [.ref a1, .ref a2, .ref a3, .ref a4, .int (nI (dz u)), .int (nI (dl u)), .int (nI (dO u))])), (a1, .inl (cI, 1575, .inl (dC u))), (a2, .inl (cI, 1575, .inl (dF u))), (a3, .inl (cI, 1575, .inl (dT u))), (a4, .inl (cI, 3060, .inl (dK u)))]) (wo := [(b, .inr (2, [.ref b1, .ref b2, .int (nI (sn (sr_prop (dC u) (dz u) 11 v).2)), .int (sh (sr_prop (dC u) (dz u) 11 v).2)])), (b1, .inl (cI, 10, .inl (sT (sr_prop (dC u) (dz u) 11 v).2))), (b2, .inl (cI, 10, .inl (sR (sr_prop (dC u) (dz u) 11 v).2))), (h, .inr (1, [.ref a1, .ref a2, .ref a3, .ref a4, .int (nI (dz u)), .int (nI (dl u)), .int (nI (dO u))])), (a1, .inl (cI, 1575, .inl (dC u))), (a2, .inl (cI, 1575, .inl (dF u))), (a3, .inl (cI, 1575, .inl (dT u))), (a4, .inl (cI, 3060, .inl (dK u)))]) (b := b) (As := [.ref h]) (rest := []) ⟨hx, hb, hml, hown, hts⟩ [0] (k_S_propagate l D cI b b1 b2 h a1 a2 a3 a4 v hv u hu) (cwV 1 hts v_S_26 rfl rfl rfl (by decide +kernel) ⟨Nat.le_of_ble_eq_true rfl, Nat.le_of_ble_eq_true rfl⟩) ⟨rfl, rfl, rfl, rfl, by decide⟩ rfl hK hP hD hS hA (va_recv (ci := 2) hK hP rfl (q0 := 0) rfl) rfl hl.1 (Nat.le_of_ble_eq_true rfl) d_S_findModel_10 ⟨Nat.le_of_ble_eq_true rfl, Nat.le_of_ble_eq_true rfl⟩ (fun H locs hP hD hS => ?_)
      have hP : va_P D cls_ [(b, .inr (2, [.ref b1, .ref b2, .int (nI (sn (sr_prop (dC u) (dz u) 11 v).2)), .int (sh (sr_prop (dC u) (dz u) 11 v).2)])), (b1, .inl (cI, 10, .inl (sT (sr_prop (dC u) (dz u) 11 v).2))), (b2, .inl (cI, 10, .inl (sR (sr_prop (dC u) (dz u) 11 v).2))), (h, .inr (1, [.ref a1, .ref a2, .ref a3, .ref a4, .int (nI (dz u)), .int (nI (dl u)), .int (nI (dO u))])), (a1, .inl (cI, 1575, .inl (dC u))), (a2, .inl (cI, 1575, .inl (dF u))), (a3, .inl (cI, 1575, .inl (dT u))), (a4, .inl (cI, 3060, .inl (dK u)))] H := hP
      have hD : va_D A [(b, .inr (2, [.ref b1, .ref b2, .int (nI (sn (sr_prop (dC u) (dz u) 11 v).2)), .int (sh (sr_prop (dC u) (dz u) 11 v).2)])), (b1, .inl (cI, 10, .inl (sT (sr_prop (dC u) (dz u) 11 v).2))), (b2, .inl (cI, 10, .inl (sR (sr_prop (dC u) (dz u) 11 v).2))), (h, .inr (1, [.ref a1, .ref a2, .ref a3, .ref a4, .int (nI (dz u)), .int (nI (dl u)), .int (nI (dO u))])), (a1, .inl (cI, 1575, .inl (dC u))), (a2, .inl (cI, 1575, .inl (dF u))), (a3, .inl (cI, 1575, .inl (dT u))), (a4, .inl (cI, 3060, .inl (dK u)))] := hD
      have hv1 := prop_le (C := dC u) (z := dz u) 11 hv
      refine lv_istore (lv' := [(4, .int (sr_prop (dC u) (dz u) 11 v).1), (3, .int (nI q)), (0, .ref b), (1, .ref h), (2, .int (nI n))]) hx hb d_S_findModel_13 hl (by decide) rfl (fun ls hl => ?_)
      refine lv_iload hx hb d_S_findModel_15 (lv_at hl 0 rfl) ?_
      refine lv_iconst (v := (-1)) hx hb d_S_findModel_17 (by decide) ?_
      refine lv_icmp_ne (tgt := 39) hx hb d_S_findModel_18 rfl (fun hc18 => ?_) (fun hc18 => ?_)
      · refine lv_aload_n hx hb d_S_findModel_39 rfl (lv_at hl 2 rfl) ?_
        refine lv_aload_n hx hb d_S_findModel_40 rfl (lv_at hl 3 rfl) ?_
        refine lv_iload hx hb d_S_findModel_41 (lv_at hl 0 rfl) ?_
        refine CTi_V (isC := [0, 1, 2, 3, 4, 5, 6, 7]) (isR := []) (wr := []) (wi := [(b, .inr (2, [.ref b1, .ref b2, .int (nI (sn (sr_prop (dC u) (dz u) 11 v).2)), .int (sh (sr_prop (dC u) (dz u) 11 v).2)])), (b1, .inl (cI, 10, .inl (sT (sr_prop (dC u) (dz u) 11 v).2))), (b2, .inl (cI, 10, .inl (sR (sr_prop (dC u) (dz u) 11 v).2))), (h, .inr (1, [.ref a1, .ref a2, .ref a3, .ref a4, .int (nI (dz u)), .int (nI (dl u)), .int (nI (dO u))])), (a1, .inl (cI, 1575, .inl (dC u))), (a2, .inl (cI, 1575, .inl (dF u))), (a3, .inl (cI, 1575, .inl (dT u))), (a4, .inl (cI, 3060, .inl (dK u)))]) (wo := [(b, .inr (2, [.ref b1, .ref b2, .int (nI (sn (sr_learn u (sr_prop (dC u) (dz u) 11 v).2 (sr_prop (dC u) (dz u) 11 v).1).2.2)), .int (sh (sr_learn u (sr_prop (dC u) (dz u) 11 v).2 (sr_prop (dC u) (dz u) 11 v).1).2.2)])), (b1, .inl (cI, 10, .inl (sT (sr_learn u (sr_prop (dC u) (dz u) 11 v).2 (sr_prop (dC u) (dz u) 11 v).1).2.2))), (b2, .inl (cI, 10, .inl (sR (sr_learn u (sr_prop (dC u) (dz u) 11 v).2 (sr_prop (dC u) (dz u) 11 v).1).2.2))), (h, .inr (1, [.ref a1, .ref a2, .ref a3, .ref a4, .int (nI (dz (sr_learn u (sr_prop (dC u) (dz u) 11 v).2 (sr_prop (dC u) (dz u) 11 v).1).2.1)), .int (nI (dl (sr_learn u (sr_prop (dC u) (dz u) 11 v).2 (sr_prop (dC u) (dz u) 11 v).1).2.1)), .int (nI (dO (sr_learn u (sr_prop (dC u) (dz u) 11 v).2 (sr_prop (dC u) (dz u) 11 v).1).2.1))])), (a1, .inl (cI, 1575, .inl (dC (sr_learn u (sr_prop (dC u) (dz u) 11 v).2 (sr_prop (dC u) (dz u) 11 v).1).2.1))), (a2, .inl (cI, 1575, .inl (dF (sr_learn u (sr_prop (dC u) (dz u) 11 v).2 (sr_prop (dC u) (dz u) 11 v).1).2.1))), (a3, .inl (cI, 1575, .inl (dT (sr_learn u (sr_prop (dC u) (dz u) 11 v).2 (sr_prop (dC u) (dz u) 11 v).1).2.1))), (a4, .inl (cI, 3060, .inl (dK (sr_learn u (sr_prop (dC u) (dz u) 11 v).2 (sr_prop (dC u) (dz u) 11 v).1).2.1)))]) (b := b) (As := [.ref h, .int (sr_prop (dC u) (dz u) 11 v).1]) (rest := []) ⟨hx, hb, hml, hown, hts⟩ [0] (k_S_learn l D cI b b1 b2 h a1 a2 a3 a4 (sr_prop (dC u) (dz u) 11 v).2 hv1 u hu (sr_prop (dC u) (dz u) 11 v).1) (cwV 2 hts v_S_34 rfl rfl rfl (by decide +kernel) ⟨Nat.le_of_ble_eq_true rfl, Nat.le_of_ble_eq_true rfl⟩) ⟨rfl, rfl, rfl, rfl, by decide⟩ rfl hK hP hD hS hA (va_recv (ci := 2) hK hP rfl (q0 := 0) rfl) rfl hl.1 (Nat.le_of_ble_eq_true rfl) d_S_findModel_43 ⟨Nat.le_of_ble_eq_true rfl, Nat.le_of_ble_eq_true rfl⟩ (fun H locs hP hD hS => ?_)
        have hP : va_P D cls_ [(b, .inr (2, [.ref b1, .ref b2, .int (nI (sn (sr_learn u (sr_prop (dC u) (dz u) 11 v).2 (sr_prop (dC u) (dz u) 11 v).1).2.2)), .int (sh (sr_learn u (sr_prop (dC u) (dz u) 11 v).2 (sr_prop (dC u) (dz u) 11 v).1).2.2)])), (b1, .inl (cI, 10, .inl (sT (sr_learn u (sr_prop (dC u) (dz u) 11 v).2 (sr_prop (dC u) (dz u) 11 v).1).2.2))), (b2, .inl (cI, 10, .inl (sR (sr_learn u (sr_prop (dC u) (dz u) 11 v).2 (sr_prop (dC u) (dz u) 11 v).1).2.2))), (h, .inr (1, [.ref a1, .ref a2, .ref a3, .ref a4, .int (nI (dz (sr_learn u (sr_prop (dC u) (dz u) 11 v).2 (sr_prop (dC u) (dz u) 11 v).1).2.1)), .int (nI (dl (sr_learn u (sr_prop (dC u) (dz u) 11 v).2 (sr_prop (dC u) (dz u) 11 v).1).2.1)), .int (nI (dO (sr_learn u (sr_prop (dC u) (dz u) 11 v).2 (sr_prop (dC u) (dz u) 11 v).1).2.1))])), (a1, .inl (cI, 1575, .inl (dC (sr_learn u (sr_prop (dC u) (dz u) 11 v).2 (sr_prop (dC u) (dz u) 11 v).1).2.1))), (a2, .inl (cI, 1575, .inl (dF (sr_learn u (sr_prop (dC u) (dz u) 11 v).2 (sr_prop (dC u) (dz u) 11 v).1).2.1))), (a3, .inl (cI, 1575, .inl (dT (sr_learn u (sr_prop (dC u) (dz u) 11 v).2 (sr_prop (dC u) (dz u) 11 v).1).2.1))), (a4, .inl (cI, 3060, .inl (dK (sr_learn u (sr_prop (dC u) (dz u) 11 v).2 (sr_prop (dC u) (dz u) 11 v).1).2.1)))] H := hP
        have hD : va_D A [(b, .inr (2, [.ref b1, .ref b2, .int (nI (sn (sr_learn u (sr_prop (dC u) (dz u) 11 v).2 (sr_prop (dC u) (dz u) 11 v).1).2.2)), .int (sh (sr_learn u (sr_prop (dC u) (dz u) 11 v).2 (sr_prop (dC u) (dz u) 11 v).1).2.2)])), (b1, .inl (cI, 10, .inl (sT (sr_learn u (sr_prop (dC u) (dz u) 11 v).2 (sr_prop (dC u) (dz u) 11 v).1).2.2))), (b2, .inl (cI, 10, .inl (sR (sr_learn u (sr_prop (dC u) (dz u) 11 v).2 (sr_prop (dC u) (dz u) 11 v).1).2.2))), (h, .inr (1, [.ref a1, .ref a2, .ref a3, .ref a4, .int (nI (dz (sr_learn u (sr_prop (dC u) (dz u) 11 v).2 (sr_prop (dC u) (dz u) 11 v).1).2.1)), .int (nI (dl (sr_learn u (sr_prop (dC u) (dz u) 11 v).2 (sr_prop (dC u) (dz u) 11 v).1).2.1)), .int (nI (dO (sr_learn u (sr_prop (dC u) (dz u) 11 v).2 (sr_prop (dC u) (dz u) 11 v).1).2.1))])), (a1, .inl (cI, 1575, .inl (dC (sr_learn u (sr_prop (dC u) (dz u) 11 v).2 (sr_prop (dC u) (dz u) 11 v).1).2.1))), (a2, .inl (cI, 1575, .inl (dF (sr_learn u (sr_prop (dC u) (dz u) 11 v).2 (sr_prop (dC u) (dz u) 11 v).1).2.1))), (a3, .inl (cI, 1575, .inl (dT (sr_learn u (sr_prop (dC u) (dz u) 11 v).2 (sr_prop (dC u) (dz u) 11 v).1).2.1))), (a4, .inl (cI, 3060, .inl (dK (sr_learn u (sr_prop (dC u) (dz u) 11 v).2 (sr_prop (dC u) (dz u) 11 v).1).2.1)))] := hD
        refine lv_if_ne (tgt := 51) hx hb d_S_findModel_46 rfl (fun hc46 => ?_) (fun hc46 => ?_)
        · refine lv_iinc (k := 1) (v := (nI (q + 1))) (lv' := [(3, .int (nI (q + 1))), (4, .int (sr_prop (dC u) (dz u) 11 v).1), (0, .ref b), (1, .ref h), (2, .int (nI n))]) hx hb d_S_findModel_51 hl rfl (nI_1 q) (by decide) rfl (fun ls hl => ?_)
          refine lv_goto (tgt := 2) hx hb d_S_findModel_54 rfl ?_
          exact ih (q + 1) (sr_learn u (sr_prop (dC u) (dz u) 11 v).2 (sr_prop (dC u) (dz u) 11 v).1).2.2 (sr_learn u (sr_prop (dC u) (dz u) 11 v).2 (sr_prop (dC u) (dz u) 11 v).1).2.1 ls H locs (by omega) (learn_le u hv1) (DW_learn hu) (by rw [← he, sr_find_s, if_neg hc18, if_neg hc46]) hP hD hS (lv_sub hl [0, 2, 3, 4] rfl)
        · refine lv_iconst (v := 0) hx hb d_S_findModel_49 (by decide) ?_
          have he9 : (false, (sr_learn u (sr_prop (dC u) (dz u) 11 v).2 (sr_prop (dC u) (dz u) 11 v).1).2.1, (sr_learn u (sr_prop (dC u) (dz u) 11 v).2 (sr_prop (dC u) (dz u) 11 v).1).2.2) = res := by rw [← he, sr_find_s, if_neg hc18, if_pos hc46]
          subst he9
          exact fin _ _ _ _ _ hP hD hS rfl d_S_findModel_50
      · refine lv_aload_n hx hb d_S_findModel_21 rfl (lv_at hl 2 rfl) ?_
        refine va_get (D := D) (ci := 2) (v := .int (nI (sn (sr_prop (dC u) (dz u) 11 v).2))) (C := R_S) (T := T_S) (N := 4) hx hb hts u_S hown hK hP 0 rfl rfl 2 (by decide) (hts _ f_S_18) (fun _ h9 => h9) rfl d_S_findModel_22 ?_
        refine lv_iload_n hx hb d_S_findModel_25 rfl (lv_at hl 4 rfl) ?_
        refine lv_icmp_lt (tgt := 31) hx hb d_S_findModel_26 rfl (fun hc26 => ?_) (fun hc26 => ?_)
        · have hful : ¬ n ≤ sn (sr_prop (dC u) (dz u) 11 v).2 := fun h => Int32.not_le.mpr hc26 (nI_le h (by omega))
          refine lv_aload_n hx hb d_S_findModel_31 rfl (lv_at hl 2 rfl) ?_
          refine lv_iload_n hx hb d_S_findModel_32 rfl (lv_at hl 4 rfl) ?_
          refine CTv_V (isC := [0, 1, 2]) (isR := [3, 4, 5, 6, 7]) (wr := [(h, .inr (1, [.ref a1, .ref a2, .ref a3, .ref a4, .int (nI (dz u)), .int (nI (dl u)), .int (nI (dO u))])), (a1, .inl (cI, 1575, .inl (dC u))), (a2, .inl (cI, 1575, .inl (dF u))), (a3, .inl (cI, 1575, .inl (dT u))), (a4, .inl (cI, 3060, .inl (dK u)))]) (wi := [(b, .inr (2, [.ref b1, .ref b2, .int (nI (sn (sr_prop (dC u) (dz u) 11 v).2)), .int (sh (sr_prop (dC u) (dz u) 11 v).2)])), (b1, .inl (cI, 10, .inl (sT (sr_prop (dC u) (dz u) 11 v).2))), (b2, .inl (cI, 10, .inl (sR (sr_prop (dC u) (dz u) 11 v).2)))]) (wo := [(b, .inr (2, [.ref b1, .ref b2, .int (nI (sn (sr_decide n (sr_prop (dC u) (dz u) 11 v).2))), .int (sh (sr_decide n (sr_prop (dC u) (dz u) 11 v).2))])), (b1, .inl (cI, 10, .inl (sT (sr_decide n (sr_prop (dC u) (dz u) 11 v).2)))), (b2, .inl (cI, 10, .inl (sR (sr_decide n (sr_prop (dC u) (dz u) 11 v).2))))]) (b := b) (As := [.int (nI n)]) (rest := []) ⟨hx, hb, hml, hown, hts⟩ [0] (k_S_decide l D cI b b1 b2 (sr_prop (dC u) (dz u) 11 v).2 hv1 (nI n) n rfl) (cwV 1 hts v_S_30 rfl rfl rfl (by decide +kernel) ⟨Nat.le_of_ble_eq_true rfl, Nat.le_of_ble_eq_true rfl⟩) ⟨rfl, rfl, rfl, rfl, by decide⟩ rfl hK hP hD hS hA (va_recv (ci := 2) hK hP rfl (q0 := 0) rfl) rfl hl.1 (Nat.le_of_ble_eq_true rfl) d_S_findModel_33 ⟨Nat.le_of_ble_eq_true rfl, Nat.le_of_ble_eq_true rfl⟩ (fun H locs hP hD hS => ?_)
          have hP : va_P D cls_ [(h, .inr (1, [.ref a1, .ref a2, .ref a3, .ref a4, .int (nI (dz u)), .int (nI (dl u)), .int (nI (dO u))])), (a1, .inl (cI, 1575, .inl (dC u))), (a2, .inl (cI, 1575, .inl (dF u))), (a3, .inl (cI, 1575, .inl (dT u))), (a4, .inl (cI, 3060, .inl (dK u))), (b, .inr (2, [.ref b1, .ref b2, .int (nI (sn (sr_decide n (sr_prop (dC u) (dz u) 11 v).2))), .int (sh (sr_decide n (sr_prop (dC u) (dz u) 11 v).2))])), (b1, .inl (cI, 10, .inl (sT (sr_decide n (sr_prop (dC u) (dz u) 11 v).2)))), (b2, .inl (cI, 10, .inl (sR (sr_decide n (sr_prop (dC u) (dz u) 11 v).2))))] H := hP
          have hD : va_D A [(h, .inr (1, [.ref a1, .ref a2, .ref a3, .ref a4, .int (nI (dz u)), .int (nI (dl u)), .int (nI (dO u))])), (a1, .inl (cI, 1575, .inl (dC u))), (a2, .inl (cI, 1575, .inl (dF u))), (a3, .inl (cI, 1575, .inl (dT u))), (a4, .inl (cI, 3060, .inl (dK u))), (b, .inr (2, [.ref b1, .ref b2, .int (nI (sn (sr_decide n (sr_prop (dC u) (dz u) 11 v).2))), .int (sh (sr_decide n (sr_prop (dC u) (dz u) 11 v).2))])), (b1, .inl (cI, 10, .inl (sT (sr_decide n (sr_prop (dC u) (dz u) 11 v).2)))), (b2, .inl (cI, 10, .inl (sR (sr_decide n (sr_prop (dC u) (dz u) 11 v).2))))] := hD
          refine lv_goto (tgt := 51) hx hb d_S_findModel_36 rfl ?_
          refine lv_iinc (k := 1) (v := (nI (q + 1))) (lv' := [(3, .int (nI (q + 1))), (4, .int (sr_prop (dC u) (dz u) 11 v).1), (0, .ref b), (1, .ref h), (2, .int (nI n))]) hx hb d_S_findModel_51 hl rfl (nI_1 q) (by decide) rfl (fun ls hl => ?_)
          refine lv_goto (tgt := 2) hx hb d_S_findModel_54 rfl ?_
          have hP := hP.sub (ws' := [(b, .inr (2, [.ref b1, .ref b2, .int (nI (sn (sr_decide n (sr_prop (dC u) (dz u) 11 v).2))), .int (sh (sr_decide n (sr_prop (dC u) (dz u) 11 v).2))])), (b1, .inl (cI, 10, .inl (sT (sr_decide n (sr_prop (dC u) (dz u) 11 v).2)))), (b2, .inl (cI, 10, .inl (sR (sr_decide n (sr_prop (dC u) (dz u) 11 v).2)))), (h, .inr (1, [.ref a1, .ref a2, .ref a3, .ref a4, .int (nI (dz u)), .int (nI (dl u)), .int (nI (dO u))])), (a1, .inl (cI, 1575, .inl (dC u))), (a2, .inl (cI, 1575, .inl (dF u))), (a3, .inl (cI, 1575, .inl (dT u))), (a4, .inl (cI, 3060, .inl (dK u)))]) [5, 6, 7, 0, 1, 2, 3, 4] rfl
          have hD := hD.sub (ws' := [(b, .inr (2, [.ref b1, .ref b2, .int (nI (sn (sr_decide n (sr_prop (dC u) (dz u) 11 v).2))), .int (sh (sr_decide n (sr_prop (dC u) (dz u) 11 v).2))])), (b1, .inl (cI, 10, .inl (sT (sr_decide n (sr_prop (dC u) (dz u) 11 v).2)))), (b2, .inl (cI, 10, .inl (sR (sr_decide n (sr_prop (dC u) (dz u) 11 v).2)))), (h, .inr (1, [.ref a1, .ref a2, .ref a3, .ref a4, .int (nI (dz u)), .int (nI (dl u)), .int (nI (dO u))])), (a1, .inl (cI, 1575, .inl (dC u))), (a2, .inl (cI, 1575, .inl (dF u))), (a3, .inl (cI, 1575, .inl (dT u))), (a4, .inl (cI, 3060, .inl (dK u)))]) [5, 6, 7, 0, 1, 2, 3, 4] (by decide) rfl
          exact ih (q + 1) (sr_decide n (sr_prop (dC u) (dz u) 11 v).2) u ls H locs (by omega) (decide_le hv1) hu (by rw [← he, sr_find_s, if_pos hc18, if_neg hful]) hP hD hS (lv_sub hl [0, 2, 3, 4] rfl)
        · have hful : n ≤ sn (sr_prop (dC u) (dz u) 11 v).2 := (nI_leI (by omega) (by omega)).1 (Int32.not_lt.mp hc26)
          refine lv_iconst (v := 1) hx hb d_S_findModel_29 (by decide) ?_
          have he9 : (true, u, (sr_prop (dC u) (dz u) 11 v).2) = res := by rw [← he, sr_find_s, if_pos hc18, if_pos hful]
          subst he9
          exact fin _ _ _ _ _ hP hD hS rfl d_S_findModel_30
  refine lv_iconst (v := 0) hx hb d_S_findModel_0 (by decide) ?_
  refine lv_istore_n (lv' := [(3, .int 0), (0, .ref b), (1, .ref h), (2, .int (nI n))]) hx hb d_S_findModel_1 rfl hl (by decide) rfl (fun ls hl => ?_)
  exact loop 100000 0 s d ls st.heap [] (by omega) hs hd hT hP hD hS (lv_sub hl [0, 1, 2, 3] rfl)
end
section
/-! Part 33: Checker, by program (wip/whole/gen_checker.py): where all is in order it counts nothing -/
abbrev wH (cI : ClassId) (g : Nat) (f0 : Int32) (h a1 a2 a3 a4 : Nat) (d : DS) : va_W := [(g, .inr (0, [.int f0])), (h, .inr (1, [.ref a1, .ref a2, .ref a3, .ref a4, .int (nI (dz d)), .int (nI (dl d)), .int (nI (dO d))])), (a1, .inl (cI, 1575, .inl (dC d))), (a2, .inl (cI, 1575, .inl (dF d))), (a3, .inl (cI, 1575, .inl (dT d))), (a4, .inl (cI, 3060, .inl (dK d)))]
theorem dk_from_at {d : DS} {i : Nat} (h : i < dz d) (hz : dz d < 2 ^ 31) : dk_from d (nI i) = dF d i := by
  unfold dk_from
  rw [if_pos ⟨nI_pos' (by omega), nI_lt h hz⟩, nI_clamp (by omega)]
theorem dk_to_at {d : DS} {i : Nat} (h : i < dz d) (hz : dz d < 2 ^ 31) : dk_to d (nI i) = dT d i := by
  unfold dk_to
  rw [if_pos ⟨nI_pos' (by omega), nI_lt h hz⟩, nI_clamp (by omega)]
theorem dk_linkAt_at {d : DS} {i : Nat} (h : i < dl d) (hz : dl d < 2 ^ 31) : dk_linkAt d (nI i) = dK d i := by
  unfold dk_linkAt
  rw [if_pos ⟨nI_pos' (by omega), nI_lt h hz⟩, nI_clamp (by omega)]
theorem if01 {P : Prop} {_ : Decidable P} (h : (if P then (0 : Int32) else 1) = 0) : P := by
  by_cases hp : P
  · exact hp
  · rw [if_neg hp] at h; exact absurd h (by decide)
set_option maxHeartbeats 4000000 in
set_option maxRecDepth 100000 in
theorem k_H_faults (l : Launch) (D : va_G) (cI : ClassId) (g : Nat) (f0 : Int32) : KTi l y_H_faults c_H_faults 1 .int { frames := 0, cells := 0, slots := 0, locals := 0 } D [(cI, .int)] [.ref g] [(g, .inr (0, [.int f0]))] (f0) [(g, .inr (0, [.int f0]))] := by
  refine KTi_of (own := R_H) (by decide +kernel) rfl (Nat.le_of_ble_eq_true rfl) (vp_nar_int _) ?_
  intro p e st m below meth c A ls Q hx hb hml hts hown hK hP hD hS hA hl fin
  refine lv_aload_n hx hb d_H_faults_0 rfl (lv_at hl 0 rfl) ?_
  refine va_get (D := D) (ci := 0) (v := .int f0) (C := R_H) (T := T_H) (N := 1) hx hb hts u_H hown hK hP 0 rfl rfl 0 (by decide) (hts _ f_H_9) (fun _ h9 => h9) rfl d_H_faults_1 ?_
  exact fin _ _ _ _ _ hP hD hS (rfl) d_H_faults_4
set_option maxHeartbeats 4000000 in
set_option maxRecDepth 100000 in
theorem k_H_linkedClause (l : Launch) (D : va_G) (cI : ClassId) (g : Nat) (f0 : Int32) (h a1 a2 a3 a4 : Nat) (d : DS) (hd : DW d) (a i t r : Nat) (hi : i < dz d) (ht : dT d i = nI t) (hat : a < t) (htl : t ≤ dl d) (hr : dK d a = nI r) (hri : r < i) : KTi l y_H_linkedClause c_H_linkedClause 5 .int { frames := 2, cells := 0, slots := 0, locals := 42 } D [(cI, .int)] [.ref g, .ref h, .int (nI a), .int (nI i)] (wH cI g f0 h a1 a2 a3 a4 d) (dC d r) (wH cI g f0 h a1 a2 a3 a4 d) := by
  refine KTi_of (own := R_H) (by decide +kernel) rfl (Nat.le_of_ble_eq_true rfl) (vp_nar_int _) ?_
  intro p e st m below meth c A ls Q hx hb hml hts hown hK hP hD hS hA hl fin
  have hz31 : dz d < 2 ^ 31 := by have := hd.1; omega
  have hl31 : dl d < 2 ^ 31 := by have := hd.2; omega
  refine lv_iload_n hx hb d_H_linkedClause_0 rfl (lv_at hl 2 rfl) ?_
  refine lv_aload_n hx hb d_H_linkedClause_1 rfl (lv_at hl 1 rfl) ?_
  refine lv_iload_n hx hb d_H_linkedClause_2 rfl (lv_at hl 3 rfl) ?_
  refine CTi_V (isC := [1, 2, 3, 4, 5]) (isR := [0]) (wr := [(g, .inr (0, [.int f0]))]) (wi := [(h, .inr (1, [.ref a1, .ref a2, .ref a3, .ref a4, .int (nI (dz d)), .int (nI (dl d)), .int (nI (dO d))])), (a1, .inl (cI, 1575, .inl (dC d))), (a2, .inl (cI, 1575, .inl (dF d))), (a3, .inl (cI, 1575, .inl (dT d))), (a4, .inl (cI, 3060, .inl (dK d)))]) (wo := [(h, .inr (1, [.ref a1, .ref a2, .ref a3, .ref a4, .int (nI (dz d)), .int (nI (dl d)), .int (nI (dO d))])), (a1, .inl (cI, 1575, .inl (dC d))), (a2, .inl (cI, 1575, .inl (dF d))), (a3, .inl (cI, 1575, .inl (dT d))), (a4, .inl (cI, 3060, .inl (dK d)))]) (b := h) (As := [.int (nI i)]) (rest := [.int (nI a)]) ⟨hx, hb, hml, hown, hts⟩ [0] (k_D_linksTo l D cI h a1 a2 a3 a4 d hd ((nI i))) (cwV 1 hts v_H_52 rfl rfl rfl (by decide +kernel) ⟨Nat.le_of_ble_eq_true rfl, Nat.le_of_ble_eq_true rfl⟩) ⟨rfl, rfl, rfl, rfl, by decide⟩ rfl hK hP hD hS hA (va_recv (ci := 1) hK hP rfl (q0 := 1) rfl) rfl hl.1 (Nat.le_of_ble_eq_true rfl) d_H_linkedClause_3 ⟨Nat.le_of_ble_eq_true rfl, Nat.le_of_ble_eq_true rfl⟩ (fun H locs hP hD hS => ?_)
  have hP : va_P D cls_ [(g, .inr (0, [.int f0])), (h, .inr (1, [.ref a1, .ref a2, .ref a3, .ref a4, .int (nI (dz d)), .int (nI (dl d)), .int (nI (dO d))])), (a1, .inl (cI, 1575, .inl (dC d))), (a2, .inl (cI, 1575, .inl (dF d))), (a3, .inl (cI, 1575, .inl (dT d))), (a4, .inl (cI, 3060, .inl (dK d)))] H := hP
  have hD : va_D A [(g, .inr (0, [.int f0])), (h, .inr (1, [.ref a1, .ref a2, .ref a3, .ref a4, .int (nI (dz d)), .int (nI (dl d)), .int (nI (dO d))])), (a1, .inl (cI, 1575, .inl (dC d))), (a2, .inl (cI, 1575, .inl (dF d))), (a3, .inl (cI, 1575, .inl (dT d))), (a4, .inl (cI, 3060, .inl (dK d)))] := hD
  rw [dk_to_at hi hz31, ht]
  refine lv_icmp_ge (tgt := 17) hx hb d_H_linkedClause_6 rfl (fun hc6 => absurd hc6 (nI_ge hat (by omega))) (fun hc6 => ?_)
  refine lv_aload_n hx hb d_H_linkedClause_9 rfl (lv_at hl 1 rfl) ?_
  refine lv_iload_n hx hb d_H_linkedClause_10 rfl (lv_at hl 2 rfl) ?_
  refine CTi_V (isC := [1, 2, 3, 4, 5]) (isR := [0]) (wr := [(g, .inr (0, [.int f0]))]) (wi := [(h, .inr (1, [.ref a1, .ref a2, .ref a3, .ref a4, .int (nI (dz d)), .int (nI (dl d)), .int (nI (dO d))])), (a1, .inl (cI, 1575, .inl (dC d))), (a2, .inl (cI, 1575, .inl (dF d))), (a3, .inl (cI, 1575, .inl (dT d))), (a4, .inl (cI, 3060, .inl (dK d)))]) (wo := [(h, .inr (1, [.ref a1, .ref a2, .ref a3, .ref a4, .int (nI (dz d)), .int (nI (dl d)), .int (nI (dO d))])), (a1, .inl (cI, 1575, .inl (dC d))), (a2, .inl (cI, 1575, .inl (dF d))), (a3, .inl (cI, 1575, .inl (dT d))), (a4, .inl (cI, 3060, .inl (dK d)))]) (b := h) (As := [.int (nI a)]) (rest := []) ⟨hx, hb, hml, hown, hts⟩ [0] (k_D_linkAt l D cI h a1 a2 a3 a4 d hd ((nI a))) (cwV 1 hts v_H_58 rfl rfl rfl (by decide +kernel) ⟨Nat.le_of_ble_eq_true rfl, Nat.le_of_ble_eq_true rfl⟩) ⟨rfl, rfl, rfl, rfl, by decide⟩ rfl hK hP hD hS hA (va_recv (ci := 1) hK hP rfl (q0 := 1) rfl) rfl hl.1 (Nat.le_of_ble_eq_true rfl) d_H_linkedClause_11 ⟨Nat.le_of_ble_eq_true rfl, Nat.le_of_ble_eq_true rfl⟩ (fun H locs hP hD hS => ?_)
  have hP : va_P D cls_ [(g, .inr (0, [.int f0])), (h, .inr (1, [.ref a1, .ref a2, .ref a3, .ref a4, .int (nI (dz d)), .int (nI (dl d)), .int (nI (dO d))])), (a1, .inl (cI, 1575, .inl (dC d))), (a2, .inl (cI, 1575, .inl (dF d))), (a3, .inl (cI, 1575, .inl (dT d))), (a4, .inl (cI, 3060, .inl (dK d)))] H := hP
  have hD : va_D A [(g, .inr (0, [.int f0])), (h, .inr (1, [.ref a1, .ref a2, .ref a3, .ref a4, .int (nI (dz d)), .int (nI (dl d)), .int (nI (dO d))])), (a1, .inl (cI, 1575, .inl (dC d))), (a2, .inl (cI, 1575, .inl (dF d))), (a3, .inl (cI, 1575, .inl (dT d))), (a4, .inl (cI, 3060, .inl (dK d)))] := hD
  rw [dk_linkAt_at (show a < dl d by omega) hl31, hr]
  refine lv_goto (tgt := 18) hx hb d_H_linkedClause_14 rfl ?_
  refine lv_istore (lv' := [(4, .int (nI r)), (0, .ref g), (1, .ref h), (2, .int (nI a)), (3, .int (nI i))]) hx hb d_H_linkedClause_18 hl (by decide) rfl (fun ls hl => ?_)
  refine lv_iload hx hb d_H_linkedClause_20 (lv_at hl 0 rfl) ?_
  refine lv_if_lt (tgt := 31) hx hb d_H_linkedClause_22 rfl (fun hc22 => absurd hc22 (nI_pos (by omega))) (fun hc22 => ?_)
  refine lv_iload hx hb d_H_linkedClause_25 (lv_at hl 0 rfl) ?_
  refine lv_iload_n hx hb d_H_linkedClause_27 rfl (lv_at hl 4 rfl) ?_
  refine lv_icmp_lt (tgt := 43) hx hb d_H_linkedClause_28 rfl (fun hc28 => ?_) (fun hc28 => absurd (nI_lt hri (by omega)) hc28)
  refine lv_aload_n hx hb d_H_linkedClause_43 rfl (lv_at hl 2 rfl) ?_
  refine lv_iload hx hb d_H_linkedClause_44 (lv_at hl 0 rfl) ?_
  refine CTi_V (isC := [1, 2, 3, 4, 5]) (isR := [0]) (wr := [(g, .inr (0, [.int f0]))]) (wi := [(h, .inr (1, [.ref a1, .ref a2, .ref a3, .ref a4, .int (nI (dz d)), .int (nI (dl d)), .int (nI (dO d))])), (a1, .inl (cI, 1575, .inl (dC d))), (a2, .inl (cI, 1575, .inl (dF d))), (a3, .inl (cI, 1575, .inl (dT d))), (a4, .inl (cI, 3060, .inl (dK d)))]) (wo := [(h, .inr (1, [.ref a1, .ref a2, .ref a3, .ref a4, .int (nI (dz d)), .int (nI (dl d)), .int (nI (dO d))])), (a1, .inl (cI, 1575, .inl (dC d))), (a2, .inl (cI, 1575, .inl (dF d))), (a3, .inl (cI, 1575, .inl (dT d))), (a4, .inl (cI, 3060, .inl (dK d)))]) (b := h) (As := [.int (nI r)]) (rest := []) ⟨hx, hb, hml, hown, hts⟩ [0] (k_D_clause l D cI h a1 a2 a3 a4 d hd ((nI r))) (cwV 1 hts v_H_38 rfl rfl rfl (by decide +kernel) ⟨Nat.le_of_ble_eq_true rfl, Nat.le_of_ble_eq_true rfl⟩) ⟨rfl, rfl, rfl, rfl, by decide⟩ rfl hK hP hD hS hA (va_recv (ci := 1) hK hP rfl (q0 := 1) rfl) rfl hl.1 (Nat.le_of_ble_eq_true rfl) d_H_linkedClause_46 ⟨Nat.le_of_ble_eq_true rfl, Nat.le_of_ble_eq_true rfl⟩ (fun H locs hP hD hS => ?_)
  have hP : va_P D cls_ [(g, .inr (0, [.int f0])), (h, .inr (1, [.ref a1, .ref a2, .ref a3, .ref a4, .int (nI (dz d)), .int (nI (dl d)), .int (nI (dO d))])), (a1, .inl (cI, 1575, .inl (dC d))), (a2, .inl (cI, 1575, .inl (dF d))), (a3, .inl (cI, 1575, .inl (dT d))), (a4, .inl (cI, 3060, .inl (dK d)))] H := hP
  have hD : va_D A [(g, .inr (0, [.int f0])), (h, .inr (1, [.ref a1, .ref a2, .ref a3, .ref a4, .int (nI (dz d)), .int (nI (dl d)), .int (nI (dO d))])), (a1, .inl (cI, 1575, .inl (dC d))), (a2, .inl (cI, 1575, .inl (dF d))), (a3, .inl (cI, 1575, .inl (dT d))), (a4, .inl (cI, 3060, .inl (dK d)))] := hD
  rw [dk_cl_at (show r < dz d by omega) hz31]
  exact fin _ _ _ _ _ hP hD hS (rfl) d_H_linkedClause_49
set_option maxHeartbeats 4000000 in
set_option maxRecDepth 100000 in
theorem k_H_checkDerivation (l : Launch) (D : va_G) (cI : ClassId) (g : Nat) (f0 : Int32) (h a1 a2 a3 a4 : Nat) (d : DS) (hd : DW d) (i : Nat) (hi : i < dz d) (hder : DER (dC d) (dF d) (dT d) (dK d) (dl d) i) : KTv l y_H_checkDerivation c_H_checkDerivation 8 { frames := 3, cells := 0, slots := 0, locals := 66 } D [(cI, .int)] [.ref g, .ref h, .int (nI i)] (wH cI g f0 h a1 a2 a3 a4 d) (wH cI g f0 h a1 a2 a3 a4 d) := by
  refine KTv_of (own := R_H) (by decide +kernel) rfl (Nat.le_of_ble_eq_true rfl) ?_
  intro p e st m below meth c A ls Q hx hb hml hts hown hK hP hD hS hA hl fin
  have hz31 : dz d < 2 ^ 31 := by have := hd.1; omega
  have hl31 : dl d < 2 ^ 31 := by have := hd.2; omega
  obtain ⟨f, k, r, eF, eT, hfl, eK, hri, hrep⟩ := hder
  have loop : ∀ (j a : Nat) (y : Int32) (ls : Array Slot) (H : Heap) (locs : List Loc), a + j = f + 1 + k → REP (dC d) (dK d) i j a y (dC d i) → va_P D cls_ [(g, .inr (0, [.int f0])), (h, .inr (1, [.ref a1, .ref a2, .ref a3, .ref a4, .int (nI (dz d)), .int (nI (dl d)), .int (nI (dO d))])), (a1, .inl (cI, 1575, .inl (dC d))), (a2, .inl (cI, 1575, .inl (dF d))), (a3, .inl (cI, 1575, .inl (dT d))), (a4, .inl (cI, 3060, .inl (dK d)))] H → va_D A [(g, .inr (0, [.int f0])), (h, .inr (1, [.ref a1, .ref a2, .ref a3, .ref a4, .int (nI (dz d)), .int (nI (dl d)), .int (nI (dO d))])), (a1, .inl (cI, 1575, .inl (dC d))), (a2, .inl (cI, 1575, .inl (dF d))), (a3, .inl (cI, 1575, .inl (dT d))), (a4, .inl (cI, 3060, .inl (dK d)))] → va_S A st.heap H locs → lv_has ls 8 [(5, .int (nI a)), (4, .int y), (0, .ref g), (1, .ref h), (2, .int (nI i))] → W p l e { frames := 3, cells := 0, slots := 0, locals := 66 } st m [Value.ref g, Value.ref h, Value.int (nI i)].toArray below meth c H locs 0 0 Q (F0 m 20 ls []) := by
    intro j
    induction j with
    | zero =>
      intro a y ls H locs ha he hP hD hS hl
      have he : y = dC d i := he
      subst he
      refine lv_iload hx hb d_H_checkDerivation_20 (lv_at hl 0 rfl) ?_
      refine lv_aload_n hx hb d_H_checkDerivation_22 rfl (lv_at hl 3 rfl) ?_
      refine lv_iload_n hx hb d_H_checkDerivation_23 rfl (lv_at hl 4 rfl) ?_
      refine CTi_V (isC := [1, 2, 3, 4, 5]) (isR := [0]) (wr := [(g, .inr (0, [.int f0]))]) (wi := [(h, .inr (1, [.ref a1, .ref a2, .ref a3, .ref a4, .int (nI (dz d)), .int (nI (dl d)), .int (nI (dO d))])), (a1, .inl (cI, 1575, .inl (dC d))), (a2, .inl (cI, 1575, .inl (dF d))), (a3, .inl (cI, 1575, .inl (dT d))), (a4, .inl (cI, 3060, .inl (dK d)))]) (wo := [(h, .inr (1, [.ref a1, .ref a2, .ref a3, .ref a4, .int (nI (dz d)), .int (nI (dl d)), .int (nI (dO d))])), (a1, .inl (cI, 1575, .inl (dC d))), (a2, .inl (cI, 1575, .inl (dF d))), (a3, .inl (cI, 1575, .inl (dT d))), (a4, .inl (cI, 3060, .inl (dK d)))]) (b := h) (As := [.int (nI i)]) (rest := [.int (nI a)]) ⟨hx, hb, hml, hown, hts⟩ [0] (k_D_linksTo l D cI h a1 a2 a3 a4 d hd ((nI i))) (cwV 1 hts v_H_52 rfl rfl rfl (by decide +kernel) ⟨Nat.le_of_ble_eq_true rfl, Nat.le_of_ble_eq_true rfl⟩) ⟨rfl, rfl, rfl, rfl, by decide⟩ rfl hK hP hD hS hA (va_recv (ci := 1) hK hP rfl (q0 := 1) rfl) rfl hl.1 (Nat.le_of_ble_eq_true rfl) d_H_checkDerivation_24 ⟨Nat.le_of_ble_eq_true rfl, Nat.le_of_ble_eq_true rfl⟩ (fun H locs hP hD hS => ?_)
      have hP : va_P D cls_ [(g, .inr (0, [.int f0])), (h, .inr (1, [.ref a1, .ref a2, .ref a3, .ref a4, .int (nI (dz d)), .int (nI (dl d)), .int (nI (dO d))])), (a1, .inl (cI, 1575, .inl (dC d))), (a2, .inl (cI, 1575, .inl (dF d))), (a3, .inl (cI, 1575, .inl (dT d))), (a4, .inl (cI, 3060, .inl (dK d)))] H := hP
      have hD : va_D A [(g, .inr (0, [.int f0])), (h, .inr (1, [.ref a1, .ref a2, .ref a3, .ref a4, .int (nI (dz d)), .int (nI (dl d)), .int (nI (dO d))])), (a1, .inl (cI, 1575, .inl (dC d))), (a2, .inl (cI, 1575, .inl (dF d))), (a3, .inl (cI, 1575, .inl (dT d))), (a4, .inl (cI, 3060, .inl (dK d)))] := hD
      rw [dk_to_at hi hz31, eT]
      refine lv_icmp_ge (tgt := 94) hx hb d_H_checkDerivation_27 rfl (fun hc27 => ?_) (fun hc27 => absurd (nI_le (by omega) (by omega)) hc27)
      refine lv_iload hx hb d_H_checkDerivation_94 (lv_at hl 1 rfl) ?_
      refine lv_aload_n hx hb d_H_checkDerivation_96 rfl (lv_at hl 3 rfl) ?_
      refine lv_iload_n hx hb d_H_checkDerivation_97 rfl (lv_at hl 4 rfl) ?_
      refine CTi_V (isC := [1, 2, 3, 4, 5]) (isR := [0]) (wr := [(g, .inr (0, [.int f0]))]) (wi := [(h, .inr (1, [.ref a1, .ref a2, .ref a3, .ref a4, .int (nI (dz d)), .int (nI (dl d)), .int (nI (dO d))])), (a1, .inl (cI, 1575, .inl (dC d))), (a2, .inl (cI, 1575, .inl (dF d))), (a3, .inl (cI, 1575, .inl (dT d))), (a4, .inl (cI, 3060, .inl (dK d)))]) (wo := [(h, .inr (1, [.ref a1, .ref a2, .ref a3, .ref a4, .int (nI (dz d)), .int (nI (dl d)), .int (nI (dO d))])), (a1, .inl (cI, 1575, .inl (dC d))), (a2, .inl (cI, 1575, .inl (dF d))), (a3, .inl (cI, 1575, .inl (dT d))), (a4, .inl (cI, 3060, .inl (dK d)))]) (b := h) (As := [.int (nI i)]) (rest := [.int (dC d i)]) ⟨hx, hb, hml, hown, hts⟩ [0] (k_D_clause l D cI h a1 a2 a3 a4 d hd ((nI i))) (cwV 1 hts v_H_38 rfl rfl rfl (by decide +kernel) ⟨Nat.le_of_ble_eq_true rfl, Nat.le_of_ble_eq_true rfl⟩) ⟨rfl, rfl, rfl, rfl, by decide⟩ rfl hK hP hD hS hA (va_recv (ci := 1) hK hP rfl (q0 := 1) rfl) rfl hl.1 (Nat.le_of_ble_eq_true rfl) d_H_checkDerivation_98 ⟨Nat.le_of_ble_eq_true rfl, Nat.le_of_ble_eq_true rfl⟩ (fun H locs hP hD hS => ?_)
      have hP : va_P D cls_ [(g, .inr (0, [.int f0])), (h, .inr (1, [.ref a1, .ref a2, .ref a3, .ref a4, .int (nI (dz d)), .int (nI (dl d)), .int (nI (dO d))])), (a1, .inl (cI, 1575, .inl (dC d))), (a2, .inl (cI, 1575, .inl (dF d))), (a3, .inl (cI, 1575, .inl (dT d))), (a4, .inl (cI, 3060, .inl (dK d)))] H := hP
      have hD : va_D A [(g, .inr (0, [.int f0])), (h, .inr (1, [.ref a1, .ref a2, .ref a3, .ref a4, .int (nI (dz d)), .int (nI (dl d)), .int (nI (dO d))])), (a1, .inl (cI, 1575, .inl (dC d))), (a2, .inl (cI, 1575, .inl (dF d))), (a3, .inl (cI, 1575, .inl (dT d))), (a4, .inl (cI, 3060, .inl (dK d)))] := hD
      rw [dk_cl_at hi hz31]
      refine lv_icmp_eq (tgt := 114) hx hb d_H_checkDerivation_101 rfl (fun hc101 => ?_) (fun hc101 => absurd rfl hc101)
      exact fin _ _ _ _ hP hD hS d_H_checkDerivation_114
    | succ j ih =>
      intro a y ls H locs ha he hP hD hS hl
      obtain ⟨r2, eK2, hr2, hs2, hrep2⟩ := he
      refine lv_iload hx hb d_H_checkDerivation_20 (lv_at hl 0 rfl) ?_
      refine lv_aload_n hx hb d_H_checkDerivation_22 rfl (lv_at hl 3 rfl) ?_
      refine lv_iload_n hx hb d_H_checkDerivation_23 rfl (lv_at hl 4 rfl) ?_
      refine CTi_V (isC := [1, 2, 3, 4, 5]) (isR := [0]) (wr := [(g, .inr (0, [.int f0]))]) (wi := [(h, .inr (1, [.ref a1, .ref a2, .ref a3, .ref a4, .int (nI (dz d)), .int (nI (dl d)), .int (nI (dO d))])), (a1, .inl (cI, 1575, .inl (dC d))), (a2, .inl (cI, 1575, .inl (dF d))), (a3, .inl (cI, 1575, .inl (dT d))), (a4, .inl (cI, 3060, .inl (dK d)))]) (wo := [(h, .inr (1, [.ref a1, .ref a2, .ref a3, .ref a4, .int (nI (dz d)), .int (nI (dl d)), .int (nI (dO d))])), (a1, .inl (cI, 1575, .inl (dC d))), (a2, .inl (cI, 1575, .inl (dF d))), (a3, .inl (cI, 1575, .inl (dT d))), (a4, .inl (cI, 3060, .inl (dK d)))]) (b := h) (As := [.int (nI i)]) (rest := [.int (nI a)]) ⟨hx, hb, hml, hown, hts⟩ [0] (k_D_linksTo l D cI h a1 a2 a3 a4 d hd ((nI i))) (cwV 1 hts v_H_52 rfl rfl rfl (by decide +kernel) ⟨Nat.le_of_ble_eq_true rfl, Nat.le_of_ble_eq_true rfl⟩) ⟨rfl, rfl, rfl, rfl, by decide⟩ rfl hK hP hD hS hA (va_recv (ci := 1) hK hP rfl (q0 := 1) rfl) rfl hl.1 (Nat.le_of_ble_eq_true rfl) d_H_checkDerivation_24 ⟨Nat.le_of_ble_eq_true rfl, Nat.le_of_ble_eq_true rfl⟩ (fun H locs hP hD hS => ?_)
      have hP : va_P D cls_ [(g, .inr (0, [.int f0])), (h, .inr (1, [.ref a1, .ref a2, .ref a3, .ref a4, .int (nI (dz d)), .int (nI (dl d)), .int (nI (dO d))])), (a1, .inl (cI, 1575, .inl (dC d))), (a2, .inl (cI, 1575, .inl (dF d))), (a3, .inl (cI, 1575, .inl (dT d))), (a4, .inl (cI, 3060, .inl (dK d)))] H := hP
      have hD : va_D A [(g, .inr (0, [.int f0])), (h, .inr (1, [.ref a1, .ref a2, .ref a3, .ref a4, .int (nI (dz d)), .int (nI (dl d)), .int (nI (dO d))])), (a1, .inl (cI, 1575, .inl (dC d))), (a2, .inl (cI, 1575, .inl (dF d))), (a3, .inl (cI, 1575, .inl (dT d))), (a4, .inl (cI, 3060, .inl (dK d)))] := hD
      rw [dk_to_at hi hz31, eT]
      refine lv_icmp_ge (tgt := 94) hx hb d_H_checkDerivation_27 rfl (fun hc27 => absurd hc27 (nI_ge (by omega) (by omega))) (fun hc27 => ?_)
      refine lv_aload_n hx hb d_H_checkDerivation_30 rfl (lv_at hl 2 rfl) ?_
      refine lv_aload_n hx hb d_H_checkDerivation_31 rfl (lv_at hl 3 rfl) ?_
      refine lv_iload hx hb d_H_checkDerivation_32 (lv_at hl 0 rfl) ?_
      refine lv_iload_n hx hb d_H_checkDerivation_34 rfl (lv_at hl 4 rfl) ?_
      refine CTi_V (isC := [0, 1, 2, 3, 4, 5]) (isR := []) (wr := []) (wi := [(g, .inr (0, [.int f0])), (h, .inr (1, [.ref a1, .ref a2, .ref a3, .ref a4, .int (nI (dz d)), .int (nI (dl d)), .int (nI (dO d))])), (a1, .inl (cI, 1575, .inl (dC d))), (a2, .inl (cI, 1575, .inl (dF d))), (a3, .inl (cI, 1575, .inl (dT d))), (a4, .inl (cI, 3060, .inl (dK d)))]) (wo := [(g, .inr (0, [.int f0])), (h, .inr (1, [.ref a1, .ref a2, .ref a3, .ref a4, .int (nI (dz d)), .int (nI (dl d)), .int (nI (dO d))])), (a1, .inl (cI, 1575, .inl (dC d))), (a2, .inl (cI, 1575, .inl (dF d))), (a3, .inl (cI, 1575, .inl (dT d))), (a4, .inl (cI, 3060, .inl (dK d)))]) (b := g) (As := [.ref h, .int (nI a), .int (nI i)]) (rest := []) ⟨hx, hb, hml, hown, hts⟩ [0] (k_H_linkedClause l D cI g f0 h a1 a2 a3 a4 d hd a i (f + 1 + k) r2 hi eT (by omega) hfl eK2 hr2) (cwV 3 hts v_H_48 rfl rfl rfl (by decide +kernel) ⟨Nat.le_of_ble_eq_true rfl, Nat.le_of_ble_eq_true rfl⟩) ⟨rfl, rfl, rfl, rfl, by decide⟩ rfl hK hP hD hS hA (va_recv (ci := 0) hK hP rfl (q0 := 0) rfl) rfl hl.1 (Nat.le_of_ble_eq_true rfl) d_H_checkDerivation_35 ⟨Nat.le_of_ble_eq_true rfl, Nat.le_of_ble_eq_true rfl⟩ (fun H locs hP hD hS => ?_)
      have hP : va_P D cls_ [(g, .inr (0, [.int f0])), (h, .inr (1, [.ref a1, .ref a2, .ref a3, .ref a4, .int (nI (dz d)), .int (nI (dl d)), .int (nI (dO d))])), (a1, .inl (cI, 1575, .inl (dC d))), (a2, .inl (cI, 1575, .inl (dF d))), (a3, .inl (cI, 1575, .inl (dT d))), (a4, .inl (cI, 3060, .inl (dK d)))] H := hP
      have hD : va_D A [(g, .inr (0, [.int f0])), (h, .inr (1, [.ref a1, .ref a2, .ref a3, .ref a4, .int (nI (dz d)), .int (nI (dl d)), .int (nI (dO d))])), (a1, .inl (cI, 1575, .inl (dC d))), (a2, .inl (cI, 1575, .inl (dF d))), (a3, .inl (cI, 1575, .inl (dT d))), (a4, .inl (cI, 3060, .inl (dK d)))] := hD
      refine lv_istore (lv' := [(6, .int (dC d r2)), (5, .int (nI a)), (4, .int y), (0, .ref g), (1, .ref h), (2, .int (nI i))]) hx hb d_H_checkDerivation_38 hl (by decide) rfl (fun ls hl => ?_)
      refine lv_iload hx hb d_H_checkDerivation_40 (lv_at hl 2 rfl) ?_
      refine lv_iload hx hb d_H_checkDerivation_42 (lv_at hl 0 rfl) ?_
      refine CTi_S (isC := []) (isR := [0, 1, 2, 3, 4, 5]) (wr := [(g, .inr (0, [.int f0])), (h, .inr (1, [.ref a1, .ref a2, .ref a3, .ref a4, .int (nI (dz d)), .int (nI (dl d)), .int (nI (dO d))])), (a1, .inl (cI, 1575, .inl (dC d))), (a2, .inl (cI, 1575, .inl (dF d))), (a3, .inl (cI, 1575, .inl (dT d))), (a4, .inl (cI, 3060, .inl (dK d)))]) (wi := []) (wo := []) (As := [.int (dC d r2)]) (rest := [.int y]) ⟨hx, hb, hml, hown, hts⟩ [] (k_L_opposite l D ((dC d r2))) (va_cwS 1 hts v_H_19 rfl rfl rfl (by decide +kernel) ⟨Nat.le_of_ble_eq_true rfl, Nat.le_of_ble_eq_true rfl⟩) ⟨rfl, rfl, rfl, rfl, by decide⟩ rfl hK hP hD hS hA rfl hl.1 (Nat.le_of_ble_eq_true rfl) d_H_checkDerivation_44 ⟨Nat.le_of_ble_eq_true rfl, Nat.le_of_ble_eq_true rfl⟩ (fun H locs hP hD hS => ?_)
      have hP : va_P D cls_ [(g, .inr (0, [.int f0])), (h, .inr (1, [.ref a1, .ref a2, .ref a3, .ref a4, .int (nI (dz d)), .int (nI (dl d)), .int (nI (dO d))])), (a1, .inl (cI, 1575, .inl (dC d))), (a2, .inl (cI, 1575, .inl (dF d))), (a3, .inl (cI, 1575, .inl (dT d))), (a4, .inl (cI, 3060, .inl (dK d)))] H := hP
      have hD : va_D A [(g, .inr (0, [.int f0])), (h, .inr (1, [.ref a1, .ref a2, .ref a3, .ref a4, .int (nI (dz d)), .int (nI (dl d)), .int (nI (dO d))])), (a1, .inl (cI, 1575, .inl (dC d))), (a2, .inl (cI, 1575, .inl (dF d))), (a3, .inl (cI, 1575, .inl (dT d))), (a4, .inl (cI, 3060, .inl (dK d)))] := hD
      refine lv_iand hx hb d_H_checkDerivation_47 ?_
      refine lv_istore (lv' := [(7, .int (y &&& (cc_neg ((dC d r2))))), (6, .int (dC d r2)), (5, .int (nI a)), (4, .int y), (0, .ref g), (1, .ref h), (2, .int (nI i))]) hx hb d_H_checkDerivation_48 hl (by decide) rfl (fun ls hl => ?_)
      refine lv_iload hx hb d_H_checkDerivation_50 (lv_at hl 0 rfl) ?_
      refine CTi_S (isC := []) (isR := [0, 1, 2, 3, 4, 5]) (wr := [(g, .inr (0, [.int f0])), (h, .inr (1, [.ref a1, .ref a2, .ref a3, .ref a4, .int (nI (dz d)), .int (nI (dl d)), .int (nI (dO d))])), (a1, .inl (cI, 1575, .inl (dC d))), (a2, .inl (cI, 1575, .inl (dF d))), (a3, .inl (cI, 1575, .inl (dT d))), (a4, .inl (cI, 3060, .inl (dK d)))]) (wi := []) (wo := []) (As := [.int (y &&& (cc_neg ((dC d r2))))]) (rest := []) ⟨hx, hb, hml, hown, hts⟩ [] (k_L_isSingle l D ((y &&& (cc_neg ((dC d r2)))))) (va_cwS 1 hts v_H_55 rfl rfl rfl (by decide +kernel) ⟨Nat.le_of_ble_eq_true rfl, Nat.le_of_ble_eq_true rfl⟩) ⟨rfl, rfl, rfl, rfl, by decide⟩ rfl hK hP hD hS hA rfl hl.1 (Nat.le_of_ble_eq_true rfl) d_H_checkDerivation_52 ⟨Nat.le_of_ble_eq_true rfl, Nat.le_of_ble_eq_true rfl⟩ (fun H locs hP hD hS => ?_)
      have hP : va_P D cls_ [(g, .inr (0, [.int f0])), (h, .inr (1, [.ref a1, .ref a2, .ref a3, .ref a4, .int (nI (dz d)), .int (nI (dl d)), .int (nI (dO d))])), (a1, .inl (cI, 1575, .inl (dC d))), (a2, .inl (cI, 1575, .inl (dF d))), (a3, .inl (cI, 1575, .inl (dT d))), (a4, .inl (cI, 3060, .inl (dK d)))] H := hP
      have hD : va_D A [(g, .inr (0, [.int f0])), (h, .inr (1, [.ref a1, .ref a2, .ref a3, .ref a4, .int (nI (dz d)), .int (nI (dl d)), .int (nI (dO d))])), (a1, .inl (cI, 1575, .inl (dC d))), (a2, .inl (cI, 1575, .inl (dF d))), (a3, .inl (cI, 1575, .inl (dT d))), (a4, .inl (cI, 3060, .inl (dK d)))] := hD
      refine lv_if_ne (tgt := 68) hx hb d_H_checkDerivation_55 rfl (fun hc55 => ?_) (fun hc55 => absurd (singleB_iff.2 hs2) (it0 hc55))
      refine lv_iload hx hb d_H_checkDerivation_68 (lv_at hl 3 rfl) ?_
      refine lv_iload hx hb d_H_checkDerivation_70 (lv_at hl 0 rfl) ?_
      refine lv_iconst (v := (-1)) hx hb d_H_checkDerivation_72 (by decide) ?_
      refine lv_ixor hx hb d_H_checkDerivation_73 ?_
      refine lv_iand hx hb d_H_checkDerivation_74 ?_
      refine lv_iload hx hb d_H_checkDerivation_75 (lv_at hl 1 rfl) ?_
      refine lv_iload hx hb d_H_checkDerivation_77 (lv_at hl 0 rfl) ?_
      refine CTi_S (isC := []) (isR := [0, 1, 2, 3, 4, 5]) (wr := [(g, .inr (0, [.int f0])), (h, .inr (1, [.ref a1, .ref a2, .ref a3, .ref a4, .int (nI (dz d)), .int (nI (dl d)), .int (nI (dO d))])), (a1, .inl (cI, 1575, .inl (dC d))), (a2, .inl (cI, 1575, .inl (dF d))), (a3, .inl (cI, 1575, .inl (dT d))), (a4, .inl (cI, 3060, .inl (dK d)))]) (wi := []) (wo := []) (As := [.int (y &&& (cc_neg ((dC d r2))))]) (rest := [.int (dC d r2), .int (y &&& ((y &&& (cc_neg ((dC d r2)))) ^^^ (-1)))]) ⟨hx, hb, hml, hown, hts⟩ [] (k_L_opposite l D ((y &&& (cc_neg ((dC d r2)))))) (va_cwS 1 hts v_H_19 rfl rfl rfl (by decide +kernel) ⟨Nat.le_of_ble_eq_true rfl, Nat.le_of_ble_eq_true rfl⟩) ⟨rfl, rfl, rfl, rfl, by decide⟩ rfl hK hP hD hS hA rfl hl.1 (Nat.le_of_ble_eq_true rfl) d_H_checkDerivation_79 ⟨Nat.le_of_ble_eq_true rfl, Nat.le_of_ble_eq_true rfl⟩ (fun H locs hP hD hS => ?_)
      have hP : va_P D cls_ [(g, .inr (0, [.int f0])), (h, .inr (1, [.ref a1, .ref a2, .ref a3, .ref a4, .int (nI (dz d)), .int (nI (dl d)), .int (nI (dO d))])), (a1, .inl (cI, 1575, .inl (dC d))), (a2, .inl (cI, 1575, .inl (dF d))), (a3, .inl (cI, 1575, .inl (dT d))), (a4, .inl (cI, 3060, .inl (dK d)))] H := hP
      have hD : va_D A [(g, .inr (0, [.int f0])), (h, .inr (1, [.ref a1, .ref a2, .ref a3, .ref a4, .int (nI (dz d)), .int (nI (dl d)), .int (nI (dO d))])), (a1, .inl (cI, 1575, .inl (dC d))), (a2, .inl (cI, 1575, .inl (dF d))), (a3, .inl (cI, 1575, .inl (dT d))), (a4, .inl (cI, 3060, .inl (dK d)))] := hD
      refine lv_iconst (v := (-1)) hx hb d_H_checkDerivation_82 (by decide) ?_
      refine lv_ixor hx hb d_H_checkDerivation_83 ?_
      refine lv_iand hx hb d_H_checkDerivation_84 ?_
      refine lv_ior hx hb d_H_checkDerivation_85 ?_
      refine lv_istore (lv' := [(4, .int ((y &&& ((y &&& (cc_neg ((dC d r2)))) ^^^ (-1))) ||| ((dC d r2) &&& ((cc_neg ((y &&& (cc_neg ((dC d r2)))))) ^^^ (-1))))), (7, .int (y &&& (cc_neg ((dC d r2))))), (6, .int (dC d r2)), (5, .int (nI a)), (0, .ref g), (1, .ref h), (2, .int (nI i))]) hx hb d_H_checkDerivation_86 hl (by decide) rfl (fun ls hl => ?_)
      refine lv_iinc (k := 3) (v := (nI (a + 1))) (lv' := [(5, .int (nI (a + 1))), (4, .int ((y &&& ((y &&& (cc_neg ((dC d r2)))) ^^^ (-1))) ||| ((dC d r2) &&& ((cc_neg ((y &&& (cc_neg ((dC d r2)))))) ^^^ (-1))))), (7, .int (y &&& (cc_neg ((dC d r2))))), (6, .int (dC d r2)), (0, .ref g), (1, .ref h), (2, .int (nI i))]) hx hb d_H_checkDerivation_88 hl rfl (nI_1 a) (by decide) rfl (fun ls hl => ?_)
      refine lv_goto (tgt := 20) hx hb d_H_checkDerivation_91 rfl ?_
      exact ih (a + 1) _ ls H locs (by omega) hrep2 hP hD hS (lv_sub hl [0, 1, 4, 5, 6] rfl)
  refine lv_aload_n hx hb d_H_checkDerivation_0 rfl (lv_at hl 1 rfl) ?_
  refine lv_iload_n hx hb d_H_checkDerivation_1 rfl (lv_at hl 2 rfl) ?_
  refine CTi_V (isC := [1, 2, 3, 4, 5]) (isR := [0]) (wr := [(g, .inr (0, [.int f0]))]) (wi := [(h, .inr (1, [.ref a1, .ref a2, .ref a3, .ref a4, .int (nI (dz d)), .int (nI (dl d)), .int (nI (dO d))])), (a1, .inl (cI, 1575, .inl (dC d))), (a2, .inl (cI, 1575, .inl (dF d))), (a3, .inl (cI, 1575, .inl (dT d))), (a4, .inl (cI, 3060, .inl (dK d)))]) (wo := [(h, .inr (1, [.ref a1, .ref a2, .ref a3, .ref a4, .int (nI (dz d)), .int (nI (dl d)), .int (nI (dO d))])), (a1, .inl (cI, 1575, .inl (dC d))), (a2, .inl (cI, 1575, .inl (dF d))), (a3, .inl (cI, 1575, .inl (dT d))), (a4, .inl (cI, 3060, .inl (dK d)))]) (b := h) (As := [.int (nI i)]) (rest := []) ⟨hx, hb, hml, hown, hts⟩ [0] (k_D_linksFrom l D cI h a1 a2 a3 a4 d hd ((nI i))) (cwV 1 hts v_H_45 rfl rfl rfl (by decide +kernel) ⟨Nat.le_of_ble_eq_true rfl, Nat.le_of_ble_eq_true rfl⟩) ⟨rfl, rfl, rfl, rfl, by decide⟩ rfl hK hP hD hS hA (va_recv (ci := 1) hK hP rfl (q0 := 1) rfl) rfl hl.1 (Nat.le_of_ble_eq_true rfl) d_H_checkDerivation_2 ⟨Nat.le_of_ble_eq_true rfl, Nat.le_of_ble_eq_true rfl⟩ (fun H locs hP hD hS => ?_)
  have hP : va_P D cls_ [(g, .inr (0, [.int f0])), (h, .inr (1, [.ref a1, .ref a2, .ref a3, .ref a4, .int (nI (dz d)), .int (nI (dl d)), .int (nI (dO d))])), (a1, .inl (cI, 1575, .inl (dC d))), (a2, .inl (cI, 1575, .inl (dF d))), (a3, .inl (cI, 1575, .inl (dT d))), (a4, .inl (cI, 3060, .inl (dK d)))] H := hP
  have hD : va_D A [(g, .inr (0, [.int f0])), (h, .inr (1, [.ref a1, .ref a2, .ref a3, .ref a4, .int (nI (dz d)), .int (nI (dl d)), .int (nI (dO d))])), (a1, .inl (cI, 1575, .inl (dC d))), (a2, .inl (cI, 1575, .inl (dF d))), (a3, .inl (cI, 1575, .inl (dT d))), (a4, .inl (cI, 3060, .inl (dK d)))] := hD
  rw [dk_from_at hi hz31, eF]
  refine lv_istore_n (lv' := [(3, .int (nI f)), (0, .ref g), (1, .ref h), (2, .int (nI i))]) hx hb d_H_checkDerivation_5 rfl hl (by decide) rfl (fun ls hl => ?_)
  refine lv_aload_n hx hb d_H_checkDerivation_6 rfl (lv_at hl 1 rfl) ?_
  refine lv_aload_n hx hb d_H_checkDerivation_7 rfl (lv_at hl 2 rfl) ?_
  refine lv_iload_n hx hb d_H_checkDerivation_8 rfl (lv_at hl 0 rfl) ?_
  refine lv_iload_n hx hb d_H_checkDerivation_9 rfl (lv_at hl 3 rfl) ?_
  refine CTi_V (isC := [0, 1, 2, 3, 4, 5]) (isR := []) (wr := []) (wi := [(g, .inr (0, [.int f0])), (h, .inr (1, [.ref a1, .ref a2, .ref a3, .ref a4, .int (nI (dz d)), .int (nI (dl d)), .int (nI (dO d))])), (a1, .inl (cI, 1575, .inl (dC d))), (a2, .inl (cI, 1575, .inl (dF d))), (a3, .inl (cI, 1575, .inl (dT d))), (a4, .inl (cI, 3060, .inl (dK d)))]) (wo := [(g, .inr (0, [.int f0])), (h, .inr (1, [.ref a1, .ref a2, .ref a3, .ref a4, .int (nI (dz d)), .int (nI (dl d)), .int (nI (dO d))])), (a1, .inl (cI, 1575, .inl (dC d))), (a2, .inl (cI, 1575, .inl (dF d))), (a3, .inl (cI, 1575, .inl (dT d))), (a4, .inl (cI, 3060, .inl (dK d)))]) (b := g) (As := [.ref h, .int (nI f), .int (nI i)]) (rest := []) ⟨hx, hb, hml, hown, hts⟩ [0] (k_H_linkedClause l D cI g f0 h a1 a2 a3 a4 d hd f i (f + 1 + k) r hi eT (by omega) hfl eK hri) (cwV 3 hts v_H_48 rfl rfl rfl (by decide +kernel) ⟨Nat.le_of_ble_eq_true rfl, Nat.le_of_ble_eq_true rfl⟩) ⟨rfl, rfl, rfl, rfl, by decide⟩ rfl hK hP hD hS hA (va_recv (ci := 0) hK hP rfl (q0 := 0) rfl) rfl hl.1 (Nat.le_of_ble_eq_true rfl) d_H_checkDerivation_10 ⟨Nat.le_of_ble_eq_true rfl, Nat.le_of_ble_eq_true rfl⟩ (fun H locs hP hD hS => ?_)
  have hP : va_P D cls_ [(g, .inr (0, [.int f0])), (h, .inr (1, [.ref a1, .ref a2, .ref a3, .ref a4, .int (nI (dz d)), .int (nI (dl d)), .int (nI (dO d))])), (a1, .inl (cI, 1575, .inl (dC d))), (a2, .inl (cI, 1575, .inl (dF d))), (a3, .inl (cI, 1575, .inl (dT d))), (a4, .inl (cI, 3060, .inl (dK d)))] H := hP
  have hD : va_D A [(g, .inr (0, [.int f0])), (h, .inr (1, [.ref a1, .ref a2, .ref a3, .ref a4, .int (nI (dz d)), .int (nI (dl d)), .int (nI (dO d))])), (a1, .inl (cI, 1575, .inl (dC d))), (a2, .inl (cI, 1575, .inl (dF d))), (a3, .inl (cI, 1575, .inl (dT d))), (a4, .inl (cI, 3060, .inl (dK d)))] := hD
  refine lv_istore (lv' := [(4, .int (dC d r)), (3, .int (nI f)), (0, .ref g), (1, .ref h), (2, .int (nI i))]) hx hb d_H_checkDerivation_13 hl (by decide) rfl (fun ls hl => ?_)
  refine lv_iload_n hx hb d_H_checkDerivation_15 rfl (lv_at hl 1 rfl) ?_
  refine lv_iconst (v := 1) hx hb d_H_checkDerivation_16 (by decide) ?_
  refine lv_iadd hx hb d_H_checkDerivation_17 ?_
  rw [nI_1]
  refine lv_istore (lv' := [(5, .int (nI (f + 1))), (4, .int (dC d r)), (3, .int (nI f)), (0, .ref g), (1, .ref h), (2, .int (nI i))]) hx hb d_H_checkDerivation_18 hl (by decide) rfl (fun ls hl => ?_)
  exact loop k (f + 1) (dC d r) ls H locs (by omega) hrep hP hD hS (lv_sub hl [0, 1, 3, 4, 5] rfl)
set_option maxHeartbeats 4000000 in
set_option maxRecDepth 100000 in
theorem k_H_checkProof (l : Launch) (D : va_G) (cI : ClassId) (g : Nat) (f0 : Int32) (h a1 a2 a3 a4 : Nat) (d : DS) (hd : DW d) (hall : ∀ i, i < dz d → dF d i = -1 ∨ DER (dC d) (dF d) (dT d) (dK d) (dl d) i) (h0 : 0 < dz d) (hl0 : dC d (dz d - 1) = 0) (hlF : dF d (dz d - 1) ≠ -1) : KTv l y_H_checkProof c_H_checkProof 3 { frames := 4, cells := 0, slots := 0, locals := 93 } D [(cI, .int)] [.ref g, .ref h] (wH cI g f0 h a1 a2 a3 a4 d) (wH cI g f0 h a1 a2 a3 a4 d) := by
  refine KTv_of (own := R_H) (by decide +kernel) rfl (Nat.le_of_ble_eq_true rfl) ?_
  intro p e st m below meth c A ls Q hx hb hml hts hown hK hP hD hS hA hl fin
  have hz31 : dz d < 2 ^ 31 := by have := hd.1; omega
  have loop : ∀ (j i : Nat) (ls : Array Slot) (H : Heap) (locs : List Loc), i + j = dz d → va_P D cls_ [(g, .inr (0, [.int f0])), (h, .inr (1, [.ref a1, .ref a2, .ref a3, .ref a4, .int (nI (dz d)), .int (nI (dl d)), .int (nI (dO d))])), (a1, .inl (cI, 1575, .inl (dC d))), (a2, .inl (cI, 1575, .inl (dF d))), (a3, .inl (cI, 1575, .inl (dT d))), (a4, .inl (cI, 3060, .inl (dK d)))] H → va_D A [(g, .inr (0, [.int f0])), (h, .inr (1, [.ref a1, .ref a2, .ref a3, .ref a4, .int (nI (dz d)), .int (nI (dl d)), .int (nI (dO d))])), (a1, .inl (cI, 1575, .inl (dC d))), (a2, .inl (cI, 1575, .inl (dF d))), (a3, .inl (cI, 1575, .inl (dT d))), (a4, .inl (cI, 3060, .inl (dK d)))] → va_S A st.heap H locs → lv_has ls 3 [(2, .int (nI i)), (0, .ref g), (1, .ref h)] → W p l e { frames := 4, cells := 0, slots := 0, locals := 93 } st m [Value.ref g, Value.ref h].toArray below meth c H locs 0 0 Q (F0 m 2 ls []) := by
    intro j
    induction j with
    | zero =>
      intro i ls H locs ha hP hD hS hl
      refine lv_iload_n hx hb d_H_checkProof_2 rfl (lv_at hl 0 rfl) ?_
      refine lv_aload_n hx hb d_H_checkProof_3 rfl (lv_at hl 2 rfl) ?_
      refine CTi_V (isC := [1, 2, 3, 4, 5]) (isR := [0]) (wr := [(g, .inr (0, [.int f0]))]) (wi := [(h, .inr (1, [.ref a1, .ref a2, .ref a3, .ref a4, .int (nI (dz d)), .int (nI (dl d)), .int (nI (dO d))])), (a1, .inl (cI, 1575, .inl (dC d))), (a2, .inl (cI, 1575, .inl (dF d))), (a3, .inl (cI, 1575, .inl (dT d))), (a4, .inl (cI, 3060, .inl (dK d)))]) (wo := [(h, .inr (1, [.ref a1, .ref a2, .ref a3, .ref a4, .int (nI (dz d)), .int (nI (dl d)), .int (nI (dO d))])), (a1, .inl (cI, 1575, .inl (dC d))), (a2, .inl (cI, 1575, .inl (dF d))), (a3, .inl (cI, 1575, .inl (dT d))), (a4, .inl (cI, 3060, .inl (dK d)))]) (b := h) (As := []) (rest := [.int (nI i)]) ⟨hx, hb, hml, hown, hts⟩ [0] (k_D_size l D cI h a1 a2 a3 a4 d hd) (cwV 0 hts v_H_28 rfl rfl rfl (by decide +kernel) ⟨Nat.le_of_ble_eq_true rfl, Nat.le_of_ble_eq_true rfl⟩) ⟨rfl, rfl, rfl, rfl, by decide⟩ rfl hK hP hD hS hA (va_recv (ci := 1) hK hP rfl (q0 := 1) rfl) rfl hl.1 (Nat.le_of_ble_eq_true rfl) d_H_checkProof_4 ⟨Nat.le_of_ble_eq_true rfl, Nat.le_of_ble_eq_true rfl⟩ (fun H locs hP hD hS => ?_)
      have hP : va_P D cls_ [(g, .inr (0, [.int f0])), (h, .inr (1, [.ref a1, .ref a2, .ref a3, .ref a4, .int (nI (dz d)), .int (nI (dl d)), .int (nI (dO d))])), (a1, .inl (cI, 1575, .inl (dC d))), (a2, .inl (cI, 1575, .inl (dF d))), (a3, .inl (cI, 1575, .inl (dT d))), (a4, .inl (cI, 3060, .inl (dK d)))] H := hP
      have hD : va_D A [(g, .inr (0, [.int f0])), (h, .inr (1, [.ref a1, .ref a2, .ref a3, .ref a4, .int (nI (dz d)), .int (nI (dl d)), .int (nI (dO d))])), (a1, .inl (cI, 1575, .inl (dC d))), (a2, .inl (cI, 1575, .inl (dF d))), (a3, .inl (cI, 1575, .inl (dT d))), (a4, .inl (cI, 3060, .inl (dK d)))] := hD
      refine lv_icmp_ge (tgt := 30) hx hb d_H_checkProof_7 rfl (fun hc7 => ?_) (fun hc7 => absurd (nI_le (by omega) (by omega)) hc7)
      refine lv_aload_n hx hb d_H_checkProof_30 rfl (lv_at hl 2 rfl) ?_
      refine CTi_V (isC := [1, 2, 3, 4, 5]) (isR := [0]) (wr := [(g, .inr (0, [.int f0]))]) (wi := [(h, .inr (1, [.ref a1, .ref a2, .ref a3, .ref a4, .int (nI (dz d)), .int (nI (dl d)), .int (nI (dO d))])), (a1, .inl (cI, 1575, .inl (dC d))), (a2, .inl (cI, 1575, .inl (dF d))), (a3, .inl (cI, 1575, .inl (dT d))), (a4, .inl (cI, 3060, .inl (dK d)))]) (wo := [(h, .inr (1, [.ref a1, .ref a2, .ref a3, .ref a4, .int (nI (dz d)), .int (nI (dl d)), .int (nI (dO d))])), (a1, .inl (cI, 1575, .inl (dC d))), (a2, .inl (cI, 1575, .inl (dF d))), (a3, .inl (cI, 1575, .inl (dT d))), (a4, .inl (cI, 3060, .inl (dK d)))]) (b := h) (As := []) (rest := []) ⟨hx, hb, hml, hown, hts⟩ [0] (k_D_size l D cI h a1 a2 a3 a4 d hd) (cwV 0 hts v_H_28 rfl rfl rfl (by decide +kernel) ⟨Nat.le_of_ble_eq_true rfl, Nat.le_of_ble_eq_true rfl⟩) ⟨rfl, rfl, rfl, rfl, by decide⟩ rfl hK hP hD hS hA (va_recv (ci := 1) hK hP rfl (q0 := 1) rfl) rfl hl.1 (Nat.le_of_ble_eq_true rfl) d_H_checkProof_31 ⟨Nat.le_of_ble_eq_true rfl, Nat.le_of_ble_eq_true rfl⟩ (fun H locs hP hD hS => ?_)
      have hP : va_P D cls_ [(g, .inr (0, [.int f0])), (h, .inr (1, [.ref a1, .ref a2, .ref a3, .ref a4, .int (nI (dz d)), .int (nI (dl d)), .int (nI (dO d))])), (a1, .inl (cI, 1575, .inl (dC d))), (a2, .inl (cI, 1575, .inl (dF d))), (a3, .inl (cI, 1575, .inl (dT d))), (a4, .inl (cI, 3060, .inl (dK d)))] H := hP
      have hD : va_D A [(g, .inr (0, [.int f0])), (h, .inr (1, [.ref a1, .ref a2, .ref a3, .ref a4, .int (nI (dz d)), .int (nI (dl d)), .int (nI (dO d))])), (a1, .inl (cI, 1575, .inl (dC d))), (a2, .inl (cI, 1575, .inl (dF d))), (a3, .inl (cI, 1575, .inl (dT d))), (a4, .inl (cI, 3060, .inl (dK d)))] := hD
      refine lv_iconst (v := 1) hx hb d_H_checkProof_34 (by decide) ?_
      refine lv_isub hx hb d_H_checkProof_35 ?_
      rw [show nI (dz d) - 1 = nI (dz d - 1) from by rw [show dz d = (dz d - 1) + 1 from by omega, nI_pred]; rfl]
      refine lv_istore_n (lv' := [(2, .int (nI (dz d - 1))), (0, .ref g), (1, .ref h)]) hx hb d_H_checkProof_36 rfl hl (by decide) rfl (fun ls hl => ?_)
      refine lv_aload_n hx hb d_H_checkProof_37 rfl (lv_at hl 2 rfl) ?_
      refine lv_iload_n hx hb d_H_checkProof_38 rfl (lv_at hl 0 rfl) ?_
      refine CTi_V (isC := [1, 2, 3, 4, 5]) (isR := [0]) (wr := [(g, .inr (0, [.int f0]))]) (wi := [(h, .inr (1, [.ref a1, .ref a2, .ref a3, .ref a4, .int (nI (dz d)), .int (nI (dl d)), .int (nI (dO d))])), (a1, .inl (cI, 1575, .inl (dC d))), (a2, .inl (cI, 1575, .inl (dF d))), (a3, .inl (cI, 1575, .inl (dT d))), (a4, .inl (cI, 3060, .inl (dK d)))]) (wo := [(h, .inr (1, [.ref a1, .ref a2, .ref a3, .ref a4, .int (nI (dz d)), .int (nI (dl d)), .int (nI (dO d))])), (a1, .inl (cI, 1575, .inl (dC d))), (a2, .inl (cI, 1575, .inl (dF d))), (a3, .inl (cI, 1575, .inl (dT d))), (a4, .inl (cI, 3060, .inl (dK d)))]) (b := h) (As := [.int (nI (dz d - 1))]) (rest := []) ⟨hx, hb, hml, hown, hts⟩ [0] (k_D_isDerived l D cI h a1 a2 a3 a4 d hd ((nI (dz d - 1)))) (cwV 1 hts v_H_34 rfl rfl rfl (by decide +kernel) ⟨Nat.le_of_ble_eq_true rfl, Nat.le_of_ble_eq_true rfl⟩) ⟨rfl, rfl, rfl, rfl, by decide⟩ rfl hK hP hD hS hA (va_recv (ci := 1) hK hP rfl (q0 := 1) rfl) rfl hl.1 (Nat.le_of_ble_eq_true rfl) d_H_checkProof_39 ⟨Nat.le_of_ble_eq_true rfl, Nat.le_of_ble_eq_true rfl⟩ (fun H locs hP hD hS => ?_)
      have hP : va_P D cls_ [(g, .inr (0, [.int f0])), (h, .inr (1, [.ref a1, .ref a2, .ref a3, .ref a4, .int (nI (dz d)), .int (nI (dl d)), .int (nI (dO d))])), (a1, .inl (cI, 1575, .inl (dC d))), (a2, .inl (cI, 1575, .inl (dF d))), (a3, .inl (cI, 1575, .inl (dT d))), (a4, .inl (cI, 3060, .inl (dK d)))] H := hP
      have hD : va_D A [(g, .inr (0, [.int f0])), (h, .inr (1, [.ref a1, .ref a2, .ref a3, .ref a4, .int (nI (dz d)), .int (nI (dl d)), .int (nI (dO d))])), (a1, .inl (cI, 1575, .inl (dC d))), (a2, .inl (cI, 1575, .inl (dF d))), (a3, .inl (cI, 1575, .inl (dT d))), (a4, .inl (cI, 3060, .inl (dK d)))] := hD
      rw [dk_from_at (show dz d - 1 < dz d by omega) hz31, if_neg hlF]
      refine lv_if_eq (tgt := 53) hx hb d_H_checkProof_42 rfl (fun hc42 => absurd hc42 (by decide)) (fun hc42 => ?_)
      refine lv_aload_n hx hb d_H_checkProof_45 rfl (lv_at hl 2 rfl) ?_
      refine lv_iload_n hx hb d_H_checkProof_46 rfl (lv_at hl 0 rfl) ?_
      refine CTi_V (isC := [1, 2, 3, 4, 5]) (isR := [0]) (wr := [(g, .inr (0, [.int f0]))]) (wi := [(h, .inr (1, [.ref a1, .ref a2, .ref a3, .ref a4, .int (nI (dz d)), .int (nI (dl d)), .int (nI (dO d))])), (a1, .inl (cI, 1575, .inl (dC d))), (a2, .inl (cI, 1575, .inl (dF d))), (a3, .inl (cI, 1575, .inl (dT d))), (a4, .inl (cI, 3060, .inl (dK d)))]) (wo := [(h, .inr (1, [.ref a1, .ref a2, .ref a3, .ref a4, .int (nI (dz d)), .int (nI (dl d)), .int (nI (dO d))])), (a1, .inl (cI, 1575, .inl (dC d))), (a2, .inl (cI, 1575, .inl (dF d))), (a3, .inl (cI, 1575, .inl (dT d))), (a4, .inl (cI, 3060, .inl (dK d)))]) (b := h) (As := [.int (nI (dz d - 1))]) (rest := []) ⟨hx, hb, hml, hown, hts⟩ [0] (k_D_clause l D cI h a1 a2 a3 a4 d hd ((nI (dz d - 1)))) (cwV 1 hts v_H_38 rfl rfl rfl (by decide +kernel) ⟨Nat.le_of_ble_eq_true rfl, Nat.le_of_ble_eq_true rfl⟩) ⟨rfl, rfl, rfl, rfl, by decide⟩ rfl hK hP hD hS hA (va_recv (ci := 1) hK hP rfl (q0 := 1) rfl) rfl hl.1 (Nat.le_of_ble_eq_true rfl) d_H_checkProof_47 ⟨Nat.le_of_ble_eq_true rfl, Nat.le_of_ble_eq_true rfl⟩ (fun H locs hP hD hS => ?_)
      have hP : va_P D cls_ [(g, .inr (0, [.int f0])), (h, .inr (1, [.ref a1, .ref a2, .ref a3, .ref a4, .int (nI (dz d)), .int (nI (dl d)), .int (nI (dO d))])), (a1, .inl (cI, 1575, .inl (dC d))), (a2, .inl (cI, 1575, .inl (dF d))), (a3, .inl (cI, 1575, .inl (dT d))), (a4, .inl (cI, 3060, .inl (dK d)))] H := hP
      have hD : va_D A [(g, .inr (0, [.int f0])), (h, .inr (1, [.ref a1, .ref a2, .ref a3, .ref a4, .int (nI (dz d)), .int (nI (dl d)), .int (nI (dO d))])), (a1, .inl (cI, 1575, .inl (dC d))), (a2, .inl (cI, 1575, .inl (dF d))), (a3, .inl (cI, 1575, .inl (dT d))), (a4, .inl (cI, 3060, .inl (dK d)))] := hD
      rw [dk_cl_at (show dz d - 1 < dz d by omega) hz31, hl0]
      refine lv_if_eq (tgt := 63) hx hb d_H_checkProof_50 rfl (fun hc50 => ?_) (fun hc50 => absurd rfl hc50)
      exact fin _ _ _ _ hP hD hS d_H_checkProof_63
    | succ j ih =>
      intro i ls H locs ha hP hD hS hl
      refine lv_iload_n hx hb d_H_checkProof_2 rfl (lv_at hl 0 rfl) ?_
      refine lv_aload_n hx hb d_H_checkProof_3 rfl (lv_at hl 2 rfl) ?_
      refine CTi_V (isC := [1, 2, 3, 4, 5]) (isR := [0]) (wr := [(g, .inr (0, [.int f0]))]) (wi := [(h, .inr (1, [.ref a1, .ref a2, .ref a3, .ref a4, .int (nI (dz d)), .int (nI (dl d)), .int (nI (dO d))])), (a1, .inl (cI, 1575, .inl (dC d))), (a2, .inl (cI, 1575, .inl (dF d))), (a3, .inl (cI, 1575, .inl (dT d))), (a4, .inl (cI, 3060, .inl (dK d)))]) (wo := [(h, .inr (1, [.ref a1, .ref a2, .ref a3, .ref a4, .int (nI (dz d)), .int (nI (dl d)), .int (nI (dO d))])), (a1, .inl (cI, 1575, .inl (dC d))), (a2, .inl (cI, 1575, .inl (dF d))), (a3, .inl (cI, 1575, .inl (dT d))), (a4, .inl (cI, 3060, .inl (dK d)))]) (b := h) (As := []) (rest := [.int (nI i)]) ⟨hx, hb, hml, hown, hts⟩ [0] (k_D_size l D cI h a1 a2 a3 a4 d hd) (cwV 0 hts v_H_28 rfl rfl rfl (by decide +kernel) ⟨Nat.le_of_ble_eq_true rfl, Nat.le_of_ble_eq_true rfl⟩) ⟨rfl, rfl, rfl, rfl, by decide⟩ rfl hK hP hD hS hA (va_recv (ci := 1) hK hP rfl (q0 := 1) rfl) rfl hl.1 (Nat.le_of_ble_eq_true rfl) d_H_checkProof_4 ⟨Nat.le_of_ble_eq_true rfl, Nat.le_of_ble_eq_true rfl⟩ (fun H locs hP hD hS => ?_)
      have hP : va_P D cls_ [(g, .inr (0, [.int f0])), (h, .inr (1, [.ref a1, .ref a2, .ref a3, .ref a4, .int (nI (dz d)), .int (nI (dl d)), .int (nI (dO d))])), (a1, .inl (cI, 1575, .inl (dC d))), (a2, .inl (cI, 1575, .inl (dF d))), (a3, .inl (cI, 1575, .inl (dT d))), (a4, .inl (cI, 3060, .inl (dK d)))] H := hP
      have hD : va_D A [(g, .inr (0, [.int f0])), (h, .inr (1, [.ref a1, .ref a2, .ref a3, .ref a4, .int (nI (dz d)), .int (nI (dl d)), .int (nI (dO d))])), (a1, .inl (cI, 1575, .inl (dC d))), (a2, .inl (cI, 1575, .inl (dF d))), (a3, .inl (cI, 1575, .inl (dT d))), (a4, .inl (cI, 3060, .inl (dK d)))] := hD
      refine lv_icmp_ge (tgt := 30) hx hb d_H_checkProof_7 rfl (fun hc7 => absurd hc7 (nI_ge (by omega) (by omega))) (fun hc7 => ?_)
      refine lv_aload_n hx hb d_H_checkProof_10 rfl (lv_at hl 2 rfl) ?_
      refine lv_iload_n hx hb d_H_checkProof_11 rfl (lv_at hl 0 rfl) ?_
      refine CTi_V (isC := [1, 2, 3, 4, 5]) (isR := [0]) (wr := [(g, .inr (0, [.int f0]))]) (wi := [(h, .inr (1, [.ref a1, .ref a2, .ref a3, .ref a4, .int (nI (dz d)), .int (nI (dl d)), .int (nI (dO d))])), (a1, .inl (cI, 1575, .inl (dC d))), (a2, .inl (cI, 1575, .inl (dF d))), (a3, .inl (cI, 1575, .inl (dT d))), (a4, .inl (cI, 3060, .inl (dK d)))]) (wo := [(h, .inr (1, [.ref a1, .ref a2, .ref a3, .ref a4, .int (nI (dz d)), .int (nI (dl d)), .int (nI (dO d))])), (a1, .inl (cI, 1575, .inl (dC d))), (a2, .inl (cI, 1575, .inl (dF d))), (a3, .inl (cI, 1575, .inl (dT d))), (a4, .inl (cI, 3060, .inl (dK d)))]) (b := h) (As := [.int (nI i)]) (rest := []) ⟨hx, hb, hml, hown, hts⟩ [0] (k_D_isDerived l D cI h a1 a2 a3 a4 d hd ((nI i))) (cwV 1 hts v_H_34 rfl rfl rfl (by decide +kernel) ⟨Nat.le_of_ble_eq_true rfl, Nat.le_of_ble_eq_true rfl⟩) ⟨rfl, rfl, rfl, rfl, by decide⟩ rfl hK hP hD hS hA (va_recv (ci := 1) hK hP rfl (q0 := 1) rfl) rfl hl.1 (Nat.le_of_ble_eq_true rfl) d_H_checkProof_12 ⟨Nat.le_of_ble_eq_true rfl, Nat.le_of_ble_eq_true rfl⟩ (fun H locs hP hD hS => ?_)
      have hP : va_P D cls_ [(g, .inr (0, [.int f0])), (h, .inr (1, [.ref a1, .ref a2, .ref a3, .ref a4, .int (nI (dz d)), .int (nI (dl d)), .int (nI (dO d))])), (a1, .inl (cI, 1575, .inl (dC d))), (a2, .inl (cI, 1575, .inl (dF d))), (a3, .inl (cI, 1575, .inl (dT d))), (a4, .inl (cI, 3060, .inl (dK d)))] H := hP
      have hD : va_D A [(g, .inr (0, [.int f0])), (h, .inr (1, [.ref a1, .ref a2, .ref a3, .ref a4, .int (nI (dz d)), .int (nI (dl d)), .int (nI (dO d))])), (a1, .inl (cI, 1575, .inl (dC d))), (a2, .inl (cI, 1575, .inl (dF d))), (a3, .inl (cI, 1575, .inl (dT d))), (a4, .inl (cI, 3060, .inl (dK d)))] := hD
      rw [dk_from_at (show i < dz d by omega) hz31]
      refine lv_if_eq (tgt := 24) hx hb d_H_checkProof_15 rfl (fun hc15 => ?_) (fun hc15 => ?_)
      · refine lv_iinc (k := 0) (v := (nI (i + 1))) (lv' := [(2, .int (nI (i + 1))), (0, .ref g), (1, .ref h)]) hx hb d_H_checkProof_24 hl rfl (nI_1 i) (by decide) rfl (fun ls hl => ?_)
        refine lv_goto (tgt := 2) hx hb d_H_checkProof_27 rfl ?_
        exact ih (i + 1) ls H locs (by omega) hP hD hS (lv_sub hl [0, 1, 2] rfl)
      · refine lv_aload_n hx hb d_H_checkProof_18 rfl (lv_at hl 1 rfl) ?_
        refine lv_aload_n hx hb d_H_checkProof_19 rfl (lv_at hl 2 rfl) ?_
        refine lv_iload_n hx hb d_H_checkProof_20 rfl (lv_at hl 0 rfl) ?_
        refine CTv_V (isC := [0, 1, 2, 3, 4, 5]) (isR := []) (wr := []) (wi := [(g, .inr (0, [.int f0])), (h, .inr (1, [.ref a1, .ref a2, .ref a3, .ref a4, .int (nI (dz d)), .int (nI (dl d)), .int (nI (dO d))])), (a1, .inl (cI, 1575, .inl (dC d))), (a2, .inl (cI, 1575, .inl (dF d))), (a3, .inl (cI, 1575, .inl (dT d))), (a4, .inl (cI, 3060, .inl (dK d)))]) (wo := [(g, .inr (0, [.int f0])), (h, .inr (1, [.ref a1, .ref a2, .ref a3, .ref a4, .int (nI (dz d)), .int (nI (dl d)), .int (nI (dO d))])), (a1, .inl (cI, 1575, .inl (dC d))), (a2, .inl (cI, 1575, .inl (dF d))), (a3, .inl (cI, 1575, .inl (dT d))), (a4, .inl (cI, 3060, .inl (dK d)))]) (b := g) (As := [.ref h, .int (nI i)]) (rest := []) ⟨hx, hb, hml, hown, hts⟩ [0] (k_H_checkDerivation l D cI g f0 h a1 a2 a3 a4 d hd i (by omega) ((hall i (by omega)).resolve_left (fun e => hc15 (if_pos e)))) (cwV 2 hts v_H_41 rfl rfl rfl (by decide +kernel) ⟨Nat.le_of_ble_eq_true rfl, Nat.le_of_ble_eq_true rfl⟩) ⟨rfl, rfl, rfl, rfl, by decide⟩ rfl hK hP hD hS hA (va_recv (ci := 0) hK hP rfl (q0 := 0) rfl) rfl hl.1 (Nat.le_of_ble_eq_true rfl) d_H_checkProof_21 ⟨Nat.le_of_ble_eq_true rfl, Nat.le_of_ble_eq_true rfl⟩ (fun H locs hP hD hS => ?_)
        have hP : va_P D cls_ [(g, .inr (0, [.int f0])), (h, .inr (1, [.ref a1, .ref a2, .ref a3, .ref a4, .int (nI (dz d)), .int (nI (dl d)), .int (nI (dO d))])), (a1, .inl (cI, 1575, .inl (dC d))), (a2, .inl (cI, 1575, .inl (dF d))), (a3, .inl (cI, 1575, .inl (dT d))), (a4, .inl (cI, 3060, .inl (dK d)))] H := hP
        have hD : va_D A [(g, .inr (0, [.int f0])), (h, .inr (1, [.ref a1, .ref a2, .ref a3, .ref a4, .int (nI (dz d)), .int (nI (dl d)), .int (nI (dO d))])), (a1, .inl (cI, 1575, .inl (dC d))), (a2, .inl (cI, 1575, .inl (dF d))), (a3, .inl (cI, 1575, .inl (dT d))), (a4, .inl (cI, 3060, .inl (dK d)))] := hD
        refine lv_iinc (k := 0) (v := (nI (i + 1))) (lv' := [(2, .int (nI (i + 1))), (0, .ref g), (1, .ref h)]) hx hb d_H_checkProof_24 hl rfl (nI_1 i) (by decide) rfl (fun ls hl => ?_)
        refine lv_goto (tgt := 2) hx hb d_H_checkProof_27 rfl ?_
        exact ih (i + 1) ls H locs (by omega) hP hD hS (lv_sub hl [0, 1, 2] rfl)
  refine lv_iconst (v := 0) hx hb d_H_checkProof_0 (by decide) ?_
  refine lv_istore_n (lv' := [(2, .int 0), (0, .ref g), (1, .ref h)]) hx hb d_H_checkProof_1 rfl hl (by decide) rfl (fun ls hl => ?_)
  exact loop (dz d) 0 ls st.heap [] (by omega) hP hD hS (lv_sub hl [0, 1, 2] rfl)
set_option maxHeartbeats 4000000 in
set_option maxRecDepth 100000 in
theorem k_H_isModel (l : Launch) (D : va_G) (cI : ClassId) (h a1 a2 a3 a4 : Nat) (d : DS) (hd : DW d) (x : Int32) (n : Nat) (hm1 : x &&& cc_neg x = 0) (hm2 : x ||| cc_neg x = cc_pos n ||| cc_neg (cc_pos n)) (hm3 : ∀ i, i < dz d → dF d i = -1 → dC d i &&& x ≠ 0) : KTi l y_H_isModel c_H_isModel 6 .boolean { frames := 3, cells := 0, slots := 0, locals := 63 } D [(cI, .int)] [.ref h, .int x, .int (nI n)] (wD cI h a1 a2 a3 a4 d) (1) (wD cI h a1 a2 a3 a4 d) := by
  refine KTi_of (own := R_H) (by decide +kernel) rfl (Nat.le_of_ble_eq_true rfl) (by decide +kernel) ?_
  intro p e st m below meth c A ls Q hx hb hml hts hown hK hP hD hS hA hl fin
  have hz31 : dz d < 2 ^ 31 := by have := hd.1; omega
  have loop : ∀ (j i : Nat) (ls : Array Slot) (H : Heap) (locs : List Loc), i + j = dz d → va_P D cls_ [(h, .inr (1, [.ref a1, .ref a2, .ref a3, .ref a4, .int (nI (dz d)), .int (nI (dl d)), .int (nI (dO d))])), (a1, .inl (cI, 1575, .inl (dC d))), (a2, .inl (cI, 1575, .inl (dF d))), (a3, .inl (cI, 1575, .inl (dT d))), (a4, .inl (cI, 3060, .inl (dK d)))] H → va_D A [(h, .inr (1, [.ref a1, .ref a2, .ref a3, .ref a4, .int (nI (dz d)), .int (nI (dl d)), .int (nI (dO d))])), (a1, .inl (cI, 1575, .inl (dC d))), (a2, .inl (cI, 1575, .inl (dF d))), (a3, .inl (cI, 1575, .inl (dT d))), (a4, .inl (cI, 3060, .inl (dK d)))] → va_S A st.heap H locs → lv_has ls 6 [(5, .int (nI i)), (0, .ref h), (1, .int x)] → W p l e { frames := 3, cells := 0, slots := 0, locals := 63 } st m [Value.ref h, Value.int x, Value.int (nI n)].toArray below meth c H locs 0 0 Q (F0 m 36 ls []) := by
    intro j
    induction j with
    | zero =>
      intro i ls H locs ha hP hD hS hl
      refine lv_iload hx hb d_H_isModel_36 (lv_at hl 0 rfl) ?_
      refine lv_aload_n hx hb d_H_isModel_38 rfl (lv_at hl 1 rfl) ?_
      refine CTi_V (isC := [0, 1, 2, 3, 4]) (isR := []) (wr := []) (wi := [(h, .inr (1, [.ref a1, .ref a2, .ref a3, .ref a4, .int (nI (dz d)), .int (nI (dl d)), .int (nI (dO d))])), (a1, .inl (cI, 1575, .inl (dC d))), (a2, .inl (cI, 1575, .inl (dF d))), (a3, .inl (cI, 1575, .inl (dT d))), (a4, .inl (cI, 3060, .inl (dK d)))]) (wo := [(h, .inr (1, [.ref a1, .ref a2, .ref a3, .ref a4, .int (nI (dz d)), .int (nI (dl d)), .int (nI (dO d))])), (a1, .inl (cI, 1575, .inl (dC d))), (a2, .inl (cI, 1575, .inl (dF d))), (a3, .inl (cI, 1575, .inl (dT d))), (a4, .inl (cI, 3060, .inl (dK d)))]) (b := h) (As := []) (rest := [.int (nI i)]) ⟨hx, hb, hml, hown, hts⟩ [0] (k_D_size l D cI h a1 a2 a3 a4 d hd) (cwV 0 hts v_H_28 rfl rfl rfl (by decide +kernel) ⟨Nat.le_of_ble_eq_true rfl, Nat.le_of_ble_eq_true rfl⟩) ⟨rfl, rfl, rfl, rfl, by decide⟩ rfl hK hP hD hS hA (va_recv (ci := 1) hK hP rfl (q0 := 0) rfl) rfl hl.1 (Nat.le_of_ble_eq_true rfl) d_H_isModel_39 ⟨Nat.le_of_ble_eq_true rfl, Nat.le_of_ble_eq_true rfl⟩ (fun H locs hP hD hS => ?_)
      have hP : va_P D cls_ [(h, .inr (1, [.ref a1, .ref a2, .ref a3, .ref a4, .int (nI (dz d)), .int (nI (dl d)), .int (nI (dO d))])), (a1, .inl (cI, 1575, .inl (dC d))), (a2, .inl (cI, 1575, .inl (dF d))), (a3, .inl (cI, 1575, .inl (dT d))), (a4, .inl (cI, 3060, .inl (dK d)))] H := hP
      have hD : va_D A [(h, .inr (1, [.ref a1, .ref a2, .ref a3, .ref a4, .int (nI (dz d)), .int (nI (dl d)), .int (nI (dO d))])), (a1, .inl (cI, 1575, .inl (dC d))), (a2, .inl (cI, 1575, .inl (dF d))), (a3, .inl (cI, 1575, .inl (dT d))), (a4, .inl (cI, 3060, .inl (dK d)))] := hD
      refine lv_icmp_ge (tgt := 73) hx hb d_H_isModel_42 rfl (fun hc42 => ?_) (fun hc42 => absurd (nI_le (by omega) (by omega)) hc42)
      refine lv_iconst (v := 1) hx hb d_H_isModel_73 (by decide) ?_
      exact fin _ _ _ _ _ hP hD hS (rfl) d_H_isModel_74
    | succ j ih =>
      intro i ls H locs ha hP hD hS hl
      refine lv_iload hx hb d_H_isModel_36 (lv_at hl 0 rfl) ?_
      refine lv_aload_n hx hb d_H_isModel_38 rfl (lv_at hl 1 rfl) ?_
      refine CTi_V (isC := [0, 1, 2, 3, 4]) (isR := []) (wr := []) (wi := [(h, .inr (1, [.ref a1, .ref a2, .ref a3, .ref a4, .int (nI (dz d)), .int (nI (dl d)), .int (nI (dO d))])), (a1, .inl (cI, 1575, .inl (dC d))), (a2, .inl (cI, 1575, .inl (dF d))), (a3, .inl (cI, 1575, .inl (dT d))), (a4, .inl (cI, 3060, .inl (dK d)))]) (wo := [(h, .inr (1, [.ref a1, .ref a2, .ref a3, .ref a4, .int (nI (dz d)), .int (nI (dl d)), .int (nI (dO d))])), (a1, .inl (cI, 1575, .inl (dC d))), (a2, .inl (cI, 1575, .inl (dF d))), (a3, .inl (cI, 1575, .inl (dT d))), (a4, .inl (cI, 3060, .inl (dK d)))]) (b := h) (As := []) (rest := [.int (nI i)]) ⟨hx, hb, hml, hown, hts⟩ [0] (k_D_size l D cI h a1 a2 a3 a4 d hd) (cwV 0 hts v_H_28 rfl rfl rfl (by decide +kernel) ⟨Nat.le_of_ble_eq_true rfl, Nat.le_of_ble_eq_true rfl⟩) ⟨rfl, rfl, rfl, rfl, by decide⟩ rfl hK hP hD hS hA (va_recv (ci := 1) hK hP rfl (q0 := 0) rfl) rfl hl.1 (Nat.le_of_ble_eq_true rfl) d_H_isModel_39 ⟨Nat.le_of_ble_eq_true rfl, Nat.le_of_ble_eq_true rfl⟩ (fun H locs hP hD hS => ?_)
      have hP : va_P D cls_ [(h, .inr (1, [.ref a1, .ref a2, .ref a3, .ref a4, .int (nI (dz d)), .int (nI (dl d)), .int (nI (dO d))])), (a1, .inl (cI, 1575, .inl (dC d))), (a2, .inl (cI, 1575, .inl (dF d))), (a3, .inl (cI, 1575, .inl (dT d))), (a4, .inl (cI, 3060, .inl (dK d)))] H := hP
      have hD : va_D A [(h, .inr (1, [.ref a1, .ref a2, .ref a3, .ref a4, .int (nI (dz d)), .int (nI (dl d)), .int (nI (dO d))])), (a1, .inl (cI, 1575, .inl (dC d))), (a2, .inl (cI, 1575, .inl (dF d))), (a3, .inl (cI, 1575, .inl (dT d))), (a4, .inl (cI, 3060, .inl (dK d)))] := hD
      refine lv_icmp_ge (tgt := 73) hx hb d_H_isModel_42 rfl (fun hc42 => absurd hc42 (nI_ge (by omega) (by omega))) (fun hc42 => ?_)
      refine lv_aload_n hx hb d_H_isModel_45 rfl (lv_at hl 1 rfl) ?_
      refine lv_iload hx hb d_H_isModel_46 (lv_at hl 0 rfl) ?_
      refine CTi_V (isC := [0, 1, 2, 3, 4]) (isR := []) (wr := []) (wi := [(h, .inr (1, [.ref a1, .ref a2, .ref a3, .ref a4, .int (nI (dz d)), .int (nI (dl d)), .int (nI (dO d))])), (a1, .inl (cI, 1575, .inl (dC d))), (a2, .inl (cI, 1575, .inl (dF d))), (a3, .inl (cI, 1575, .inl (dT d))), (a4, .inl (cI, 3060, .inl (dK d)))]) (wo := [(h, .inr (1, [.ref a1, .ref a2, .ref a3, .ref a4, .int (nI (dz d)), .int (nI (dl d)), .int (nI (dO d))])), (a1, .inl (cI, 1575, .inl (dC d))), (a2, .inl (cI, 1575, .inl (dF d))), (a3, .inl (cI, 1575, .inl (dT d))), (a4, .inl (cI, 3060, .inl (dK d)))]) (b := h) (As := [.int (nI i)]) (rest := []) ⟨hx, hb, hml, hown, hts⟩ [0] (k_D_isDerived l D cI h a1 a2 a3 a4 d hd ((nI i))) (cwV 1 hts v_H_34 rfl rfl rfl (by decide +kernel) ⟨Nat.le_of_ble_eq_true rfl, Nat.le_of_ble_eq_true rfl⟩) ⟨rfl, rfl, rfl, rfl, by decide⟩ rfl hK hP hD hS hA (va_recv (ci := 1) hK hP rfl (q0 := 0) rfl) rfl hl.1 (Nat.le_of_ble_eq_true rfl) d_H_isModel_48 ⟨Nat.le_of_ble_eq_true rfl, Nat.le_of_ble_eq_true rfl⟩ (fun H locs hP hD hS => ?_)
      have hP : va_P D cls_ [(h, .inr (1, [.ref a1, .ref a2, .ref a3, .ref a4, .int (nI (dz d)), .int (nI (dl d)), .int (nI (dO d))])), (a1, .inl (cI, 1575, .inl (dC d))), (a2, .inl (cI, 1575, .inl (dF d))), (a3, .inl (cI, 1575, .inl (dT d))), (a4, .inl (cI, 3060, .inl (dK d)))] H := hP
      have hD : va_D A [(h, .inr (1, [.ref a1, .ref a2, .ref a3, .ref a4, .int (nI (dz d)), .int (nI (dl d)), .int (nI (dO d))])), (a1, .inl (cI, 1575, .inl (dC d))), (a2, .inl (cI, 1575, .inl (dF d))), (a3, .inl (cI, 1575, .inl (dT d))), (a4, .inl (cI, 3060, .inl (dK d)))] := hD
      rw [dk_from_at (show i < dz d by omega) hz31]
      refine lv_if_ne (tgt := 67) hx hb d_H_isModel_51 rfl (fun hc51 => ?_) (fun hc51 => ?_)
      · refine lv_iinc (k := 0) (v := (nI (i + 1))) (lv' := [(5, .int (nI (i + 1))), (0, .ref h), (1, .int x)]) hx hb d_H_isModel_67 hl rfl (nI_1 i) (by decide) rfl (fun ls hl => ?_)
        refine lv_goto (tgt := 36) hx hb d_H_isModel_70 rfl ?_
        exact ih (i + 1) ls H locs (by omega) hP hD hS (lv_sub hl [0, 1, 2] rfl)
      · refine lv_aload_n hx hb d_H_isModel_54 rfl (lv_at hl 1 rfl) ?_
        refine lv_iload hx hb d_H_isModel_55 (lv_at hl 0 rfl) ?_
        refine CTi_V (isC := [0, 1, 2, 3, 4]) (isR := []) (wr := []) (wi := [(h, .inr (1, [.ref a1, .ref a2, .ref a3, .ref a4, .int (nI (dz d)), .int (nI (dl d)), .int (nI (dO d))])), (a1, .inl (cI, 1575, .inl (dC d))), (a2, .inl (cI, 1575, .inl (dF d))), (a3, .inl (cI, 1575, .inl (dT d))), (a4, .inl (cI, 3060, .inl (dK d)))]) (wo := [(h, .inr (1, [.ref a1, .ref a2, .ref a3, .ref a4, .int (nI (dz d)), .int (nI (dl d)), .int (nI (dO d))])), (a1, .inl (cI, 1575, .inl (dC d))), (a2, .inl (cI, 1575, .inl (dF d))), (a3, .inl (cI, 1575, .inl (dT d))), (a4, .inl (cI, 3060, .inl (dK d)))]) (b := h) (As := [.int (nI i)]) (rest := []) ⟨hx, hb, hml, hown, hts⟩ [0] (k_D_clause l D cI h a1 a2 a3 a4 d hd ((nI i))) (cwV 1 hts v_H_38 rfl rfl rfl (by decide +kernel) ⟨Nat.le_of_ble_eq_true rfl, Nat.le_of_ble_eq_true rfl⟩) ⟨rfl, rfl, rfl, rfl, by decide⟩ rfl hK hP hD hS hA (va_recv (ci := 1) hK hP rfl (q0 := 0) rfl) rfl hl.1 (Nat.le_of_ble_eq_true rfl) d_H_isModel_57 ⟨Nat.le_of_ble_eq_true rfl, Nat.le_of_ble_eq_true rfl⟩ (fun H locs hP hD hS => ?_)
        have hP : va_P D cls_ [(h, .inr (1, [.ref a1, .ref a2, .ref a3, .ref a4, .int (nI (dz d)), .int (nI (dl d)), .int (nI (dO d))])), (a1, .inl (cI, 1575, .inl (dC d))), (a2, .inl (cI, 1575, .inl (dF d))), (a3, .inl (cI, 1575, .inl (dT d))), (a4, .inl (cI, 3060, .inl (dK d)))] H := hP
        have hD : va_D A [(h, .inr (1, [.ref a1, .ref a2, .ref a3, .ref a4, .int (nI (dz d)), .int (nI (dl d)), .int (nI (dO d))])), (a1, .inl (cI, 1575, .inl (dC d))), (a2, .inl (cI, 1575, .inl (dF d))), (a3, .inl (cI, 1575, .inl (dT d))), (a4, .inl (cI, 3060, .inl (dK d)))] := hD
        rw [dk_cl_at (show i < dz d by omega) hz31]
        refine lv_iload_n hx hb d_H_isModel_60 rfl (lv_at hl 2 rfl) ?_
        refine lv_iand hx hb d_H_isModel_61 ?_
        refine lv_if_ne (tgt := 67) hx hb d_H_isModel_62 rfl (fun hc62 => ?_) (fun hc62 => absurd hc62 (hm3 i (by omega) (if01 hc51)))
        refine lv_iinc (k := 0) (v := (nI (i + 1))) (lv' := [(5, .int (nI (i + 1))), (0, .ref h), (1, .int x)]) hx hb d_H_isModel_67 hl rfl (nI_1 i) (by decide) rfl (fun ls hl => ?_)
        refine lv_goto (tgt := 36) hx hb d_H_isModel_70 rfl ?_
        exact ih (i + 1) ls H locs (by omega) hP hD hS (lv_sub hl [0, 1, 2] rfl)
  refine lv_iload_n hx hb d_H_isModel_0 rfl (lv_at hl 1 rfl) ?_
  refine CTi_S (isC := []) (isR := [0, 1, 2, 3, 4]) (wr := [(h, .inr (1, [.ref a1, .ref a2, .ref a3, .ref a4, .int (nI (dz d)), .int (nI (dl d)), .int (nI (dO d))])), (a1, .inl (cI, 1575, .inl (dC d))), (a2, .inl (cI, 1575, .inl (dF d))), (a3, .inl (cI, 1575, .inl (dT d))), (a4, .inl (cI, 3060, .inl (dK d)))]) (wi := []) (wo := []) (As := [.int x]) (rest := []) ⟨hx, hb, hml, hown, hts⟩ [] (k_L_opposite l D (x)) (va_cwS 1 hts v_H_19 rfl rfl rfl (by decide +kernel) ⟨Nat.le_of_ble_eq_true rfl, Nat.le_of_ble_eq_true rfl⟩) ⟨rfl, rfl, rfl, rfl, by decide⟩ rfl hK hP hD hS hA rfl hl.1 (Nat.le_of_ble_eq_true rfl) d_H_isModel_1 ⟨Nat.le_of_ble_eq_true rfl, Nat.le_of_ble_eq_true rfl⟩ (fun H locs hP hD hS => ?_)
  have hP : va_P D cls_ [(h, .inr (1, [.ref a1, .ref a2, .ref a3, .ref a4, .int (nI (dz d)), .int (nI (dl d)), .int (nI (dO d))])), (a1, .inl (cI, 1575, .inl (dC d))), (a2, .inl (cI, 1575, .inl (dF d))), (a3, .inl (cI, 1575, .inl (dT d))), (a4, .inl (cI, 3060, .inl (dK d)))] H := hP
  have hD : va_D A [(h, .inr (1, [.ref a1, .ref a2, .ref a3, .ref a4, .int (nI (dz d)), .int (nI (dl d)), .int (nI (dO d))])), (a1, .inl (cI, 1575, .inl (dC d))), (a2, .inl (cI, 1575, .inl (dF d))), (a3, .inl (cI, 1575, .inl (dT d))), (a4, .inl (cI, 3060, .inl (dK d)))] := hD
  refine lv_istore_n (lv' := [(3, .int (cc_neg (x))), (0, .ref h), (1, .int x), (2, .int (nI n))]) hx hb d_H_isModel_4 rfl hl (by decide) rfl (fun ls hl => ?_)
  refine lv_iload_n hx hb d_H_isModel_5 rfl (lv_at hl 3 rfl) ?_
  refine CTi_S (isC := []) (isR := [0, 1, 2, 3, 4]) (wr := [(h, .inr (1, [.ref a1, .ref a2, .ref a3, .ref a4, .int (nI (dz d)), .int (nI (dl d)), .int (nI (dO d))])), (a1, .inl (cI, 1575, .inl (dC d))), (a2, .inl (cI, 1575, .inl (dF d))), (a3, .inl (cI, 1575, .inl (dT d))), (a4, .inl (cI, 3060, .inl (dK d)))]) (wi := []) (wo := []) (As := [.int (nI n)]) (rest := []) ⟨hx, hb, hml, hown, hts⟩ [] (k_L_positivesUpTo l D ((nI n))) (va_cwS 1 hts v_H_25 rfl rfl rfl (by decide +kernel) ⟨Nat.le_of_ble_eq_true rfl, Nat.le_of_ble_eq_true rfl⟩) ⟨rfl, rfl, rfl, rfl, by decide⟩ rfl hK hP hD hS hA rfl hl.1 (Nat.le_of_ble_eq_true rfl) d_H_isModel_6 ⟨Nat.le_of_ble_eq_true rfl, Nat.le_of_ble_eq_true rfl⟩ (fun H locs hP hD hS => ?_)
  have hP : va_P D cls_ [(h, .inr (1, [.ref a1, .ref a2, .ref a3, .ref a4, .int (nI (dz d)), .int (nI (dl d)), .int (nI (dO d))])), (a1, .inl (cI, 1575, .inl (dC d))), (a2, .inl (cI, 1575, .inl (dF d))), (a3, .inl (cI, 1575, .inl (dT d))), (a4, .inl (cI, 3060, .inl (dK d)))] H := hP
  have hD : va_D A [(h, .inr (1, [.ref a1, .ref a2, .ref a3, .ref a4, .int (nI (dz d)), .int (nI (dl d)), .int (nI (dO d))])), (a1, .inl (cI, 1575, .inl (dC d))), (a2, .inl (cI, 1575, .inl (dF d))), (a3, .inl (cI, 1575, .inl (dT d))), (a4, .inl (cI, 3060, .inl (dK d)))] := hD
  refine lv_istore (lv' := [(4, .int (cc_pos n)), (3, .int (cc_neg (x))), (0, .ref h), (1, .int x), (2, .int (nI n))]) hx hb d_H_isModel_9 hl (by decide) rfl (fun ls hl => ?_)
  refine lv_iload_n hx hb d_H_isModel_11 rfl (lv_at hl 3 rfl) ?_
  refine lv_iload_n hx hb d_H_isModel_12 rfl (lv_at hl 1 rfl) ?_
  refine lv_iand hx hb d_H_isModel_13 ?_
  refine lv_if_ne (tgt := 31) hx hb d_H_isModel_14 rfl (fun hc14 => absurd hm1 hc14) (fun hc14 => ?_)
  refine lv_iload_n hx hb d_H_isModel_17 rfl (lv_at hl 3 rfl) ?_
  refine lv_iload_n hx hb d_H_isModel_18 rfl (lv_at hl 1 rfl) ?_
  refine lv_ior hx hb d_H_isModel_19 ?_
  refine lv_iload hx hb d_H_isModel_20 (lv_at hl 0 rfl) ?_
  refine lv_iload hx hb d_H_isModel_22 (lv_at hl 0 rfl) ?_
  refine CTi_S (isC := []) (isR := [0, 1, 2, 3, 4]) (wr := [(h, .inr (1, [.ref a1, .ref a2, .ref a3, .ref a4, .int (nI (dz d)), .int (nI (dl d)), .int (nI (dO d))])), (a1, .inl (cI, 1575, .inl (dC d))), (a2, .inl (cI, 1575, .inl (dF d))), (a3, .inl (cI, 1575, .inl (dT d))), (a4, .inl (cI, 3060, .inl (dK d)))]) (wi := []) (wo := []) (As := [.int (cc_pos n)]) (rest := [.int (cc_pos n), .int (x ||| (cc_neg (x)))]) ⟨hx, hb, hml, hown, hts⟩ [] (k_L_opposite l D ((cc_pos n))) (va_cwS 1 hts v_H_19 rfl rfl rfl (by decide +kernel) ⟨Nat.le_of_ble_eq_true rfl, Nat.le_of_ble_eq_true rfl⟩) ⟨rfl, rfl, rfl, rfl, by decide⟩ rfl hK hP hD hS hA rfl hl.1 (Nat.le_of_ble_eq_true rfl) d_H_isModel_24 ⟨Nat.le_of_ble_eq_true rfl, Nat.le_of_ble_eq_true rfl⟩ (fun H locs hP hD hS => ?_)
  have hP : va_P D cls_ [(h, .inr (1, [.ref a1, .ref a2, .ref a3, .ref a4, .int (nI (dz d)), .int (nI (dl d)), .int (nI (dO d))])), (a1, .inl (cI, 1575, .inl (dC d))), (a2, .inl (cI, 1575, .inl (dF d))), (a3, .inl (cI, 1575, .inl (dT d))), (a4, .inl (cI, 3060, .inl (dK d)))] H := hP
  have hD : va_D A [(h, .inr (1, [.ref a1, .ref a2, .ref a3, .ref a4, .int (nI (dz d)), .int (nI (dl d)), .int (nI (dO d))])), (a1, .inl (cI, 1575, .inl (dC d))), (a2, .inl (cI, 1575, .inl (dF d))), (a3, .inl (cI, 1575, .inl (dT d))), (a4, .inl (cI, 3060, .inl (dK d)))] := hD
  refine lv_ior hx hb d_H_isModel_27 ?_
  refine lv_icmp_eq (tgt := 33) hx hb d_H_isModel_28 rfl (fun hc28 => ?_) (fun hc28 => absurd hm2 hc28)
  refine lv_iconst (v := 0) hx hb d_H_isModel_33 (by decide) ?_
  refine lv_istore (lv' := [(5, .int 0), (4, .int (cc_pos n)), (3, .int (cc_neg (x))), (0, .ref h), (1, .int x), (2, .int (nI n))]) hx hb d_H_isModel_34 hl (by decide) rfl (fun ls hl => ?_)
  exact loop (dz d) 0 ls H locs (by omega) hP hD hS (lv_sub hl [0, 3, 4] rfl)
set_option maxHeartbeats 4000000 in
set_option maxRecDepth 100000 in
theorem k_H_checkModel (l : Launch) (D : va_G) (cI : ClassId) (g : Nat) (f0 : Int32) (h a1 a2 a3 a4 : Nat) (d : DS) (hd : DW d) (x : Int32) (n : Nat) (hm1 : x &&& cc_neg x = 0) (hm2 : x ||| cc_neg x = cc_pos n ||| cc_neg (cc_pos n)) (hm3 : ∀ i, i < dz d → dF d i = -1 → dC d i &&& x ≠ 0) : KTv l y_H_checkModel c_H_checkModel 4 { frames := 4, cells := 0, slots := 0, locals := 88 } D [(cI, .int)] [.ref g, .ref h, .int x, .int (nI n)] (wH cI g f0 h a1 a2 a3 a4 d) (wH cI g f0 h a1 a2 a3 a4 d) := by
  refine KTv_of (own := R_H) (by decide +kernel) rfl (Nat.le_of_ble_eq_true rfl) ?_
  intro p e st m below meth c A ls Q hx hb hml hts hown hK hP hD hS hA hl fin
  refine lv_aload_n hx hb d_H_checkModel_0 rfl (lv_at hl 1 rfl) ?_
  refine lv_iload_n hx hb d_H_checkModel_1 rfl (lv_at hl 2 rfl) ?_
  refine lv_iload_n hx hb d_H_checkModel_2 rfl (lv_at hl 3 rfl) ?_
  refine CTi_S (isC := [1, 2, 3, 4, 5]) (isR := [0]) (wr := [(g, .inr (0, [.int f0]))]) (wi := [(h, .inr (1, [.ref a1, .ref a2, .ref a3, .ref a4, .int (nI (dz d)), .int (nI (dl d)), .int (nI (dO d))])), (a1, .inl (cI, 1575, .inl (dC d))), (a2, .inl (cI, 1575, .inl (dF d))), (a3, .inl (cI, 1575, .inl (dT d))), (a4, .inl (cI, 3060, .inl (dK d)))]) (wo := [(h, .inr (1, [.ref a1, .ref a2, .ref a3, .ref a4, .int (nI (dz d)), .int (nI (dl d)), .int (nI (dO d))])), (a1, .inl (cI, 1575, .inl (dC d))), (a2, .inl (cI, 1575, .inl (dF d))), (a3, .inl (cI, 1575, .inl (dT d))), (a4, .inl (cI, 3060, .inl (dK d)))]) (As := [.ref h, .int x, .int (nI n)]) (rest := []) ⟨hx, hb, hml, hown, hts⟩ [0] (k_H_isModel l D cI h a1 a2 a3 a4 d hd x n hm1 hm2 hm3) (va_cwS 3 hts v_H_15 rfl rfl rfl (by decide +kernel) ⟨Nat.le_of_ble_eq_true rfl, Nat.le_of_ble_eq_true rfl⟩) ⟨rfl, rfl, rfl, rfl, by decide⟩ rfl hK hP hD hS hA rfl hl.1 (Nat.le_of_ble_eq_true rfl) d_H_checkModel_3 ⟨Nat.le_of_ble_eq_true rfl, Nat.le_of_ble_eq_true rfl⟩ (fun H locs hP hD hS => ?_)
  have hP : va_P D cls_ [(g, .inr (0, [.int f0])), (h, .inr (1, [.ref a1, .ref a2, .ref a3, .ref a4, .int (nI (dz d)), .int (nI (dl d)), .int (nI (dO d))])), (a1, .inl (cI, 1575, .inl (dC d))), (a2, .inl (cI, 1575, .inl (dF d))), (a3, .inl (cI, 1575, .inl (dT d))), (a4, .inl (cI, 3060, .inl (dK d)))] H := hP
  have hD : va_D A [(g, .inr (0, [.int f0])), (h, .inr (1, [.ref a1, .ref a2, .ref a3, .ref a4, .int (nI (dz d)), .int (nI (dl d)), .int (nI (dO d))])), (a1, .inl (cI, 1575, .inl (dC d))), (a2, .inl (cI, 1575, .inl (dF d))), (a3, .inl (cI, 1575, .inl (dT d))), (a4, .inl (cI, 3060, .inl (dK d)))] := hD
  refine lv_if_ne (tgt := 19) hx hb d_H_checkModel_6 rfl (fun hc6 => ?_) (fun hc6 => absurd hc6 (by decide))
  exact fin _ _ _ _ hP hD hS d_H_checkModel_19
end
section
/-! Part 34: ClauseCourt, what doesn't throw, by program (wip/whole/gen_court.py) -/
abbrev wC (cI : ClassId) (q qa g b b1 b2 h a1 a2 a3 a4 : Nat) (am : Nat → Int32) (an vn kn : Nat) (tm : Int32) (tn : Nat) (hm mo f0 : Int32) (s : SS) (d : DS) : va_W := [(q, .inr (3, [.ref h, .ref b, .ref g, .ref qa, .int (nI an), .int (nI vn), .int (nI kn), .int tm, .int (nI tn), .int hm, .int mo])), (qa, .inl (cI, 10, .inl am)), (g, .inr (0, [.int f0])), (b, .inr (2, [.ref b1, .ref b2, .int (nI (sn s)), .int (sh s)])), (b1, .inl (cI, 10, .inl (sT s))), (b2, .inl (cI, 10, .inl (sR s))), (h, .inr (1, [.ref a1, .ref a2, .ref a3, .ref a4, .int (nI (dz d)), .int (nI (dl d)), .int (nI (dO d))])), (a1, .inl (cI, 1575, .inl (dC d))), (a2, .inl (cI, 1575, .inl (dF d))), (a3, .inl (cI, 1575, .inl (dT d))), (a4, .inl (cI, 3060, .inl (dK d)))]
/-- k assumptions from i on are given -/
def gv (am : Nat → Int32) : Nat → Nat → DS → DS
  | 0, _, d => d
  | k + 1, i, d => gv am k (i + 1) (dk_give d (am i))
/-- the counting of models, k more at most -/
def md (n : Nat) : Nat → Nat → DS → SS → Nat × DS × SS
  | 0, c, d, s => (c, d, s)
  | k + 1, c, d, s => if (sr_find n 100000 d s).1 = true then md n k (c + 1) (dk_give (sr_find n 100000 d s).2.1 (cc_neg (sh (sr_find n 100000 d s).2.2))) (sr_find n 100000 d s).2.2 else (c, (sr_find n 100000 d s).2.1, (sr_find n 100000 d s).2.2)
theorem md_s (n k c : Nat) (d : DS) (s : SS) : md n (k + 1) c d s = if (sr_find n 100000 d s).1 = true then md n k (c + 1) (dk_give (sr_find n 100000 d s).2.1 (cc_neg (sh (sr_find n 100000 d s).2.2))) (sr_find n 100000 d s).2.2 else (c, (sr_find n 100000 d s).2.1, (sr_find n 100000 d s).2.2) := rfl
def cnt (an vn kn tn : Nat) (hm f0 x : Int32) : Int32 := if x = 0 then nI vn else if x = 1 then nI kn else if x = 2 then nI tn else if x = 3 then nI an else if x = 4 then (if hm = 0 then 0 else 1) else if x = 5 then f0 else -1
theorem cnt_out {an vn kn tn : Nat} {hm f0 x : Int32} (h0 : ¬ x = 0) (h1 : ¬ x = 1) (h2 : ¬ x = 2) (h3 : ¬ x = 3) (h4 : ¬ x = 4) (h5 : ¬ x = 5) : cnt an vn kn tn hm f0 x = -1 := by
  unfold cnt
  rw [if_neg h0, if_neg h1, if_neg h2, if_neg h3, if_neg h4, if_neg h5]
theorem ne_toInt {x k : Int32} (h : ¬ x = k) : x.toInt ≠ k.toInt := fun e => h (Int32.toInt_inj.mp e)
theorem sw_out {x : Int32} (h0 : ¬ x = 0) (h1 : ¬ x = 1) (h2 : ¬ x = 2) (h3 : ¬ x = 3) (h4 : ¬ x = 4) (h5 : ¬ x = 5) : x.toInt < 0 ∨ 5 < x.toInt := by
  have g0 := ne_toInt h0
  have g1 := ne_toInt h1
  have g2 := ne_toInt h2
  have g3 := ne_toInt h3
  have g4 := ne_toInt h4
  have g5 := ne_toInt h5
  rw [show (0 : Int32).toInt = 0 from by decide +kernel] at g0
  rw [show (1 : Int32).toInt = 1 from by decide +kernel] at g1
  rw [show (2 : Int32).toInt = 2 from by decide +kernel] at g2
  rw [show (3 : Int32).toInt = 3 from by decide +kernel] at g3
  rw [show (4 : Int32).toInt = 4 from by decide +kernel] at g4
  rw [show (5 : Int32).toInt = 5 from by decide +kernel] at g5
  omega
theorem fit_if (P : Prop) {_ : Decidable P} : fits .boolean (.int (if P then 1 else 0)) = true := by split <;> decide +kernel
theorem DK_DW {n : Nat} {d : DS} {L g : Nat} (h : DK n d L g) (hg : g ≤ 551) (hL : L ≤ 1024) : DW d := by
  have h1 := h.2.1
  have h2 := h.2.2.1
  have h3 := pS_mono 1024 hL
  have h4 := pS_end
  exact ⟨by omega, by omega⟩
theorem FI_DW {n : Nat} {d : DS} {s : SS} {t : Nat → Nat} {L g : Nat} (hg : g ≤ 551) (h : FI n d s t L g) : DW d := DK_DW h.1 hg h.2.2.2.2
theorem find_le {n : Nat} : ∀ (f : Nat) (d : DS) {s : SS}, sn s ≤ 10 → sn (sr_find n f d s).2.2 ≤ 10 := by
  intro f
  induction f with
  | zero => intro d s h; exact h
  | succ f ih =>
    intro d s h
    have h1 := prop_le (C := dC d) (z := dz d) 11 h
    rw [sr_find_s]
    split
    · split
      · exact h1
      · exact ih d (decide_le h1)
    · split
      · exact learn_le d h1
      · exact ih _ (learn_le d h1)
theorem next_ok {n g : Nat} {d : DS} {s : SS} {t : Nat → Nat} {L : Nat} (hn : n ≤ 10) (hg : g ≤ 551) (h : FI n d s t L g) :
    DW (sr_find n 100000 d s).2.1 ∧
    ((sr_find n 100000 d s).1 = true → sh (sr_find n 100000 d s).2.2 &&& cc_neg (sh (sr_find n 100000 d s).2.2) = 0 ∧ sh (sr_find n 100000 d s).2.2 ||| cc_neg (sh (sr_find n 100000 d s).2.2) = cc_pos n ||| cc_neg (cc_pos n) ∧ ∀ i, i < dz (sr_find n 100000 d s).2.1 → dF (sr_find n 100000 d s).2.1 i = -1 → dC (sr_find n 100000 d s).2.1 i &&& sh (sr_find n 100000 d s).2.2 ≠ 0) ∧
    ((sr_find n 100000 d s).1 = false → (∀ i, i < dz (sr_find n 100000 d s).2.1 → dF (sr_find n 100000 d s).2.1 i = -1 ∨ DER (dC (sr_find n 100000 d s).2.1) (dF (sr_find n 100000 d s).2.1) (dT (sr_find n 100000 d s).2.1) (dK (sr_find n 100000 d s).2.1) (dl (sr_find n 100000 d s).2.1) i) ∧ 0 < dz (sr_find n 100000 d s).2.1 ∧ dC (sr_find n 100000 d s).2.1 (dz (sr_find n 100000 d s).2.1 - 1) = 0 ∧ dF (sr_find n 100000 d s).2.1 (dz (sr_find n 100000 d s).2.1 - 1) ≠ -1) := by
  obtain ⟨-, hr⟩ := find_ok hn hg 100000 d s t L h (by omega)
  generalize sr_find n 100000 d s = F at hr ⊢
  obtain ⟨r, d2, s2⟩ := F
  rcases hr with ⟨e, t2, L2, hF⟩ | ⟨e, L2, hF⟩
  · have e : r = true := e
    subst e
    obtain ⟨D, H, hN, hL, hL2, hful, hnb⟩ := hF
    have hful : sn s2 = n := hful
    have H : TR n (dC d2) (dz d2) (sT s2) (sR s2) (sn s2) (sh s2) t2 := H
    rw [hful] at H
    refine ⟨DK_DW D hg hL2, fun _ => ⟨?_, ?_, ?_⟩, fun h => Bool.noConfusion h⟩
    · show sh s2 &&& cc_neg (sh s2) = 0
      rw [b_and0]
      intro l h1 h2
      obtain ⟨-, h3⟩ := b_negI.1 h2
      obtain ⟨k, hk, ek⟩ := (H.2.2.1 _).1 h1
      obtain ⟨j, hj, ej⟩ := (H.2.2.1 _).1 h3
      exact TR_opp H hj hk (by rw [ej, ek])
    · show sh s2 ||| cc_neg (sh s2) = cc_pos n ||| cc_neg (cc_pos n)
      apply b_ext
      intro i hi
      have hl : (bt (sh s2 ||| cc_neg (sh s2)) i = true) ↔ i < 20 ∧ i % 10 < n := by
        rw [b_or, Bool.or_eq_true, b_negI]
        constructor
        · rintro (h1 | ⟨h0, h1⟩)
          · obtain ⟨k, hk, ek⟩ := (H.2.2.1 _).1 h1
            have := H.1 k hk
            rw [ek] at this
            exact ⟨this.1, this.2.1⟩
          · obtain ⟨k, hk, ek⟩ := (H.2.2.1 _).1 h1
            have := H.1 k hk
            rw [ek, cn_var h0] at this
            exact ⟨h0, this.2.1⟩
        · rintro ⟨h0, h1⟩
          obtain ⟨k, hk, ek⟩ := (TR_len H).2 rfl (i % 10) h1
          rcases cn_same (H.1 k hk).1 h0 ek with h2 | h2
          · exact Or.inl ((H.2.2.1 _).2 ⟨k, hk, h2⟩)
          · exact Or.inr ⟨h0, (H.2.2.1 _).2 ⟨k, hk, h2⟩⟩
      have hr : (bt (cc_pos n ||| cc_neg (cc_pos n)) i = true) ↔ i < 20 ∧ i % 10 < n := by
        rw [b_or, Bool.or_eq_true, b_negI, b_pos n (by omega) i hi, decide_eq_true_eq]
        constructor
        · rintro (h1 | ⟨h0, h1⟩)
          · omega
          · rw [b_pos n (by omega) _ (by have := cn_lt h0; omega), decide_eq_true_eq] at h1
            have := cn_var h0
            omega
        · rintro ⟨h0, h1⟩
          by_cases c : i < 10
          · exact Or.inl (by omega)
          · refine Or.inr ⟨h0, ?_⟩
            rw [b_pos n (by omega) _ (by have := cn_lt h0; omega), decide_eq_true_eq]
            unfold cn
            rw [if_neg c]
            omega
      cases hb : bt (sh s2 ||| cc_neg (sh s2)) i with
      | true => exact (hr.2 (hl.1 hb)).symm
      | false =>
        cases hc : bt (cc_pos n ||| cc_neg (cc_pos n)) i with
        | false => rfl
        | true =>
          rw [hl.2 (hr.1 hc)] at hb
          exact absurd hb (by decide)
    · intro i hi _
      exact (model_ok H D.1 hi (by have := hnb i hi; rw [hful] at this; exact this)).2
  · have e : r = false := e
    subst e
    obtain ⟨D, hL, h0, h1, h2⟩ := hF
    exact ⟨DK_DW D hg hL, fun h => Bool.noConfusion h, fun _ => ⟨D.2.2.2.2.1, h0, h1, h2⟩⟩
theorem next_more {n g : Nat} {d : DS} {s : SS} {t : Nat → Nat} {L : Nat} (hn : n ≤ 10) (hg : g ≤ 550) (h : FI n d s t L g) (hT : (sr_find n 100000 d s).1 = true) :
    ∃ t2 L2, FI n (dk_give (sr_find n 100000 d s).2.1 (cc_neg (sh (sr_find n 100000 d s).2.2))) (sr_find n 100000 d s).2.2 t2 L2 (g + 1) := by
  obtain ⟨-, hr⟩ := find_ok hn (show g ≤ 551 by omega) 100000 d s t L h (by omega)
  rcases hr with ⟨_, t2, L2, hF⟩ | ⟨e, _⟩
  · exact ⟨t2, L2, (block_ok hg hn hF).1⟩
  · rw [hT] at e; exact absurd e (by decide)
set_option maxHeartbeats 4000000 in
set_option maxRecDepth 100000 in
theorem k_C_openQuestion (l : Launch) (D : va_G) (cI : ClassId) (q qa g b b1 b2 h a1 a2 a3 a4 : Nat) (am : Nat → Int32) (an vn kn : Nat) (tm : Int32) (tn : Nat) (hm mo f0 : Int32) (s : SS) (d : DS) (han : an ≤ 10) (hs : sn s ≤ 10) (hd : DW d) : KTv l y_C_openQuestion c_C_openQuestion 2 { frames := 2, cells := 0, slots := 0, locals := 44 } D [(cI, .int)] [.ref q] (wC cI q qa g b b1 b2 h a1 a2 a3 a4 am an vn kn tm tn hm mo f0 s d) (wC cI q qa g b b1 b2 h a1 a2 a3 a4 am 0 vn kn tm tn 0 0 f0 ((sT s, sR s, 0, 0)) ((gv am an 0 d))) := by
  refine KTv_of (own := R_C) (by decide +kernel) rfl (Nat.le_of_ble_eq_true rfl) ?_
  intro p e st m below meth c A ls Q hx hb hml hts hown hK hP hD hS hA hl fin
  generalize hT : gv am an 0 d = res at fin
  have loop : ∀ (k i : Nat) (u : DS) (ls : Array Slot) (H : Heap) (locs : List Loc), i + k = an → DW u → gv am k i u = res → va_P D cls_ [(q, .inr (3, [.ref h, .ref b, .ref g, .ref qa, .int (nI an), .int (nI vn), .int (nI kn), .int tm, .int (nI tn), .int 0, .int 0])), (qa, .inl (cI, 10, .inl (am))), (g, .inr (0, [.int f0])), (b, .inr (2, [.ref b1, .ref b2, .int (nI (sn s)), .int (sh s)])), (b1, .inl (cI, 10, .inl (sT s))), (b2, .inl (cI, 10, .inl (sR s))), (h, .inr (1, [.ref a1, .ref a2, .ref a3, .ref a4, .int (nI (dz u)), .int (nI (dl u)), .int (nI (dO u))])), (a1, .inl (cI, 1575, .inl (dC u))), (a2, .inl (cI, 1575, .inl (dF u))), (a3, .inl (cI, 1575, .inl (dT u))), (a4, .inl (cI, 3060, .inl (dK u)))] H → va_D A [(q, .inr (3, [.ref h, .ref b, .ref g, .ref qa, .int (nI an), .int (nI vn), .int (nI kn), .int tm, .int (nI tn), .int 0, .int 0])), (qa, .inl (cI, 10, .inl (am))), (g, .inr (0, [.int f0])), (b, .inr (2, [.ref b1, .ref b2, .int (nI (sn s)), .int (sh s)])), (b1, .inl (cI, 10, .inl (sT s))), (b2, .inl (cI, 10, .inl (sR s))), (h, .inr (1, [.ref a1, .ref a2, .ref a3, .ref a4, .int (nI (dz u)), .int (nI (dl u)), .int (nI (dO u))])), (a1, .inl (cI, 1575, .inl (dC u))), (a2, .inl (cI, 1575, .inl (dF u))), (a3, .inl (cI, 1575, .inl (dT u))), (a4, .inl (cI, 3060, .inl (dK u)))] → va_S A st.heap H locs → lv_has ls 2 [(1, .int (nI i)), (0, .ref q)] → W p l e { frames := 2, cells := 0, slots := 0, locals := 44 } st m [Value.ref q].toArray below meth c H locs 0 0 Q (F0 m 12 ls []) := by
    intro k
    induction k with
    | zero =>
      intro i u ls H locs hi hu he hP hD hS hl
      have he : u = res := he
      subst he
      refine lv_iload_n hx hb d_C_openQuestion_12 rfl (lv_at hl 0 rfl) ?_
      refine lv_aload_n hx hb d_C_openQuestion_13 rfl (lv_at hl 1 rfl) ?_
      refine va_get (D := D) (ci := 3) (v := .int (nI an)) (C := R_C) (T := T_C) (N := 11) hx hb hts u_C hown hK hP 0 rfl rfl 4 (by decide) (hts _ f_C_71) (fun _ h9 => h9) rfl d_C_openQuestion_14 ?_
      refine lv_icmp_ge (tgt := 39) hx hb d_C_openQuestion_17 rfl (fun hc17 => ?_) (fun hc17 => absurd (nI_le (by omega) (by omega)) hc17)
      refine lv_aload_n hx hb d_C_openQuestion_39 rfl (lv_at hl 1 rfl) ?_
      refine lv_iconst (v := 0) hx hb d_C_openQuestion_40 (by decide) ?_
      refine va_put (D := D) (ci := 3) (v := .int 0) (ty := .int) (C := R_C) (T := T_C) (N := 11) hx hb hts u_C t_C t_C_ok n_C hown hK hP hD hS 0 rfl rfl 4 (by decide) (hts _ f_C_71) (fun _ h9 => h9) rfl (by decide +kernel) rfl rfl (Nat.le_of_ble_eq_true rfl) d_C_openQuestion_41 (fun H locs hP hD hS => ?_)
      have hP : va_P D cls_ [(q, .inr (3, [.ref h, .ref b, .ref g, .ref qa, .int 0, .int (nI vn), .int (nI kn), .int tm, .int (nI tn), .int 0, .int 0])), (qa, .inl (cI, 10, .inl (am))), (g, .inr (0, [.int f0])), (b, .inr (2, [.ref b1, .ref b2, .int (nI (sn s)), .int (sh s)])), (b1, .inl (cI, 10, .inl (sT s))), (b2, .inl (cI, 10, .inl (sR s))), (h, .inr (1, [.ref a1, .ref a2, .ref a3, .ref a4, .int (nI (dz u)), .int (nI (dl u)), .int (nI (dO u))])), (a1, .inl (cI, 1575, .inl (dC u))), (a2, .inl (cI, 1575, .inl (dF u))), (a3, .inl (cI, 1575, .inl (dT u))), (a4, .inl (cI, 3060, .inl (dK u)))] H := hP
      have hD : va_D A [(q, .inr (3, [.ref h, .ref b, .ref g, .ref qa, .int 0, .int (nI vn), .int (nI kn), .int tm, .int (nI tn), .int 0, .int 0])), (qa, .inl (cI, 10, .inl (am))), (g, .inr (0, [.int f0])), (b, .inr (2, [.ref b1, .ref b2, .int (nI (sn s)), .int (sh s)])), (b1, .inl (cI, 10, .inl (sT s))), (b2, .inl (cI, 10, .inl (sR s))), (h, .inr (1, [.ref a1, .ref a2, .ref a3, .ref a4, .int (nI (dz u)), .int (nI (dl u)), .int (nI (dO u))])), (a1, .inl (cI, 1575, .inl (dC u))), (a2, .inl (cI, 1575, .inl (dF u))), (a3, .inl (cI, 1575, .inl (dT u))), (a4, .inl (cI, 3060, .inl (dK u)))] := hD
      refine lv_aload_n hx hb d_C_openQuestion_44 rfl (lv_at hl 1 rfl) ?_
      refine va_get (D := D) (ci := 3) (v := .ref b) (C := R_C) (T := T_C) (N := 11) hx hb hts u_C hown hK hP 0 rfl rfl 1 (by decide) (hts _ f_C_19) (fun _ h9 => h9) rfl d_C_openQuestion_45 ?_
      refine CTv_V (isC := [3, 4, 5]) (isR := [0, 1, 2, 6, 7, 8, 9, 10]) (wr := [(q, .inr (3, [.ref h, .ref b, .ref g, .ref qa, .int 0, .int (nI vn), .int (nI kn), .int tm, .int (nI tn), .int 0, .int 0])), (qa, .inl (cI, 10, .inl (am))), (g, .inr (0, [.int f0])), (h, .inr (1, [.ref a1, .ref a2, .ref a3, .ref a4, .int (nI (dz u)), .int (nI (dl u)), .int (nI (dO u))])), (a1, .inl (cI, 1575, .inl (dC u))), (a2, .inl (cI, 1575, .inl (dF u))), (a3, .inl (cI, 1575, .inl (dT u))), (a4, .inl (cI, 3060, .inl (dK u)))]) (wi := [(b, .inr (2, [.ref b1, .ref b2, .int (nI (sn s)), .int (sh s)])), (b1, .inl (cI, 10, .inl (sT s))), (b2, .inl (cI, 10, .inl (sR s)))]) (wo := [(b, .inr (2, [.ref b1, .ref b2, .int (nI (sn (sT s, sR s, 0, 0))), .int (sh (sT s, sR s, 0, 0))])), (b1, .inl (cI, 10, .inl (sT (sT s, sR s, 0, 0)))), (b2, .inl (cI, 10, .inl (sR (sT s, sR s, 0, 0))))]) (b := b) (As := []) (rest := []) ⟨hx, hb, hml, hown, hts⟩ [0] (k_S_begin l D cI b b1 b2 s hs) (cwV 0 hts v_C_115 rfl rfl rfl (by decide +kernel) ⟨Nat.le_of_ble_eq_true rfl, Nat.le_of_ble_eq_true rfl⟩) ⟨rfl, rfl, rfl, rfl, by decide⟩ rfl hK hP hD hS hA (va_recv (ci := 2) hK hP rfl (q0 := 3) rfl) rfl hl.1 (Nat.le_of_ble_eq_true rfl) d_C_openQuestion_48 ⟨Nat.le_of_ble_eq_true rfl, Nat.le_of_ble_eq_true rfl⟩ (fun H locs hP hD hS => ?_)
      have hP : va_P D cls_ [(q, .inr (3, [.ref h, .ref b, .ref g, .ref qa, .int 0, .int (nI vn), .int (nI kn), .int tm, .int (nI tn), .int 0, .int 0])), (qa, .inl (cI, 10, .inl (am))), (g, .inr (0, [.int f0])), (h, .inr (1, [.ref a1, .ref a2, .ref a3, .ref a4, .int (nI (dz u)), .int (nI (dl u)), .int (nI (dO u))])), (a1, .inl (cI, 1575, .inl (dC u))), (a2, .inl (cI, 1575, .inl (dF u))), (a3, .inl (cI, 1575, .inl (dT u))), (a4, .inl (cI, 3060, .inl (dK u))), (b, .inr (2, [.ref b1, .ref b2, .int (nI (sn (sT s, sR s, 0, 0))), .int (sh (sT s, sR s, 0, 0))])), (b1, .inl (cI, 10, .inl (sT (sT s, sR s, 0, 0)))), (b2, .inl (cI, 10, .inl (sR (sT s, sR s, 0, 0))))] H := hP
      have hD : va_D A [(q, .inr (3, [.ref h, .ref b, .ref g, .ref qa, .int 0, .int (nI vn), .int (nI kn), .int tm, .int (nI tn), .int 0, .int 0])), (qa, .inl (cI, 10, .inl (am))), (g, .inr (0, [.int f0])), (h, .inr (1, [.ref a1, .ref a2, .ref a3, .ref a4, .int (nI (dz u)), .int (nI (dl u)), .int (nI (dO u))])), (a1, .inl (cI, 1575, .inl (dC u))), (a2, .inl (cI, 1575, .inl (dF u))), (a3, .inl (cI, 1575, .inl (dT u))), (a4, .inl (cI, 3060, .inl (dK u))), (b, .inr (2, [.ref b1, .ref b2, .int (nI (sn (sT s, sR s, 0, 0))), .int (sh (sT s, sR s, 0, 0))])), (b1, .inl (cI, 10, .inl (sT (sT s, sR s, 0, 0)))), (b2, .inl (cI, 10, .inl (sR (sT s, sR s, 0, 0))))] := hD
      have hP := hP.sub (ws' := [(q, .inr (3, [.ref h, .ref b, .ref g, .ref qa, .int 0, .int (nI vn), .int (nI kn), .int tm, .int (nI tn), .int 0, .int 0])), (qa, .inl (cI, 10, .inl (am))), (g, .inr (0, [.int f0])), (b, .inr (2, [.ref b1, .ref b2, .int (nI (sn (sT s, sR s, 0, 0))), .int (sh (sT s, sR s, 0, 0))])), (b1, .inl (cI, 10, .inl (sT (sT s, sR s, 0, 0)))), (b2, .inl (cI, 10, .inl (sR (sT s, sR s, 0, 0)))), (h, .inr (1, [.ref a1, .ref a2, .ref a3, .ref a4, .int (nI (dz u)), .int (nI (dl u)), .int (nI (dO u))])), (a1, .inl (cI, 1575, .inl (dC u))), (a2, .inl (cI, 1575, .inl (dF u))), (a3, .inl (cI, 1575, .inl (dT u))), (a4, .inl (cI, 3060, .inl (dK u)))]) [0, 1, 2, 8, 9, 10, 3, 4, 5, 6, 7] rfl
      have hD := hD.sub (ws' := [(q, .inr (3, [.ref h, .ref b, .ref g, .ref qa, .int 0, .int (nI vn), .int (nI kn), .int tm, .int (nI tn), .int 0, .int 0])), (qa, .inl (cI, 10, .inl (am))), (g, .inr (0, [.int f0])), (b, .inr (2, [.ref b1, .ref b2, .int (nI (sn (sT s, sR s, 0, 0))), .int (sh (sT s, sR s, 0, 0))])), (b1, .inl (cI, 10, .inl (sT (sT s, sR s, 0, 0)))), (b2, .inl (cI, 10, .inl (sR (sT s, sR s, 0, 0)))), (h, .inr (1, [.ref a1, .ref a2, .ref a3, .ref a4, .int (nI (dz u)), .int (nI (dl u)), .int (nI (dO u))])), (a1, .inl (cI, 1575, .inl (dC u))), (a2, .inl (cI, 1575, .inl (dF u))), (a3, .inl (cI, 1575, .inl (dT u))), (a4, .inl (cI, 3060, .inl (dK u)))]) [0, 1, 2, 8, 9, 10, 3, 4, 5, 6, 7] (by decide) rfl
      exact fin _ _ _ _ hP hD hS d_C_openQuestion_51
    | succ k ih =>
      intro i u ls H locs hi hu he hP hD hS hl
      refine lv_iload_n hx hb d_C_openQuestion_12 rfl (lv_at hl 0 rfl) ?_
      refine lv_aload_n hx hb d_C_openQuestion_13 rfl (lv_at hl 1 rfl) ?_
      refine va_get (D := D) (ci := 3) (v := .int (nI an)) (C := R_C) (T := T_C) (N := 11) hx hb hts u_C hown hK hP 0 rfl rfl 4 (by decide) (hts _ f_C_71) (fun _ h9 => h9) rfl d_C_openQuestion_14 ?_
      refine lv_icmp_ge (tgt := 39) hx hb d_C_openQuestion_17 rfl (fun hc17 => absurd hc17 (nI_ge (by omega) (by omega))) (fun hc17 => ?_)
      refine lv_aload_n hx hb d_C_openQuestion_20 rfl (lv_at hl 1 rfl) ?_
      refine va_get (D := D) (ci := 3) (v := .ref h) (C := R_C) (T := T_C) (N := 11) hx hb hts u_C hown hK hP 0 rfl rfl 0 (by decide) (hts _ f_C_10) (fun _ h9 => h9) rfl d_C_openQuestion_21 ?_
      refine lv_aload_n hx hb d_C_openQuestion_24 rfl (lv_at hl 1 rfl) ?_
      refine va_get (D := D) (ci := 3) (v := .ref qa) (C := R_C) (T := T_C) (N := 11) hx hb hts u_C hown hK hP 0 rfl rfl 3 (by decide) (hts _ f_C_30) (fun _ h9 => h9) rfl d_C_openQuestion_25 ?_
      refine lv_iload_n hx hb d_C_openQuestion_28 rfl (lv_at hl 0 rfl) ?_
      refine va_iald (D := D) (i := (nI i)) hx hb hK hP 1 0 rfl rfl (vp_in_nI (show i < 10 by omega) (by decide)) d_C_openQuestion_29 ?_
      rw [show ((nI i) : Int32).toNatClampNeg = i from nI_clamp (by omega)]
      refine CTv_V (isC := [6, 7, 8, 9, 10]) (isR := [0, 1, 2, 3, 4, 5]) (wr := [(q, .inr (3, [.ref h, .ref b, .ref g, .ref qa, .int (nI an), .int (nI vn), .int (nI kn), .int tm, .int (nI tn), .int 0, .int 0])), (qa, .inl (cI, 10, .inl (am))), (g, .inr (0, [.int f0])), (b, .inr (2, [.ref b1, .ref b2, .int (nI (sn s)), .int (sh s)])), (b1, .inl (cI, 10, .inl (sT s))), (b2, .inl (cI, 10, .inl (sR s)))]) (wi := [(h, .inr (1, [.ref a1, .ref a2, .ref a3, .ref a4, .int (nI (dz u)), .int (nI (dl u)), .int (nI (dO u))])), (a1, .inl (cI, 1575, .inl (dC u))), (a2, .inl (cI, 1575, .inl (dF u))), (a3, .inl (cI, 1575, .inl (dT u))), (a4, .inl (cI, 3060, .inl (dK u)))]) (wo := [(h, .inr (1, [.ref a1, .ref a2, .ref a3, .ref a4, .int (nI (dz (dk_give u ((am i))))), .int (nI (dl (dk_give u ((am i))))), .int (nI (dO (dk_give u ((am i)))))])), (a1, .inl (cI, 1575, .inl (dC (dk_give u ((am i)))))), (a2, .inl (cI, 1575, .inl (dF (dk_give u ((am i)))))), (a3, .inl (cI, 1575, .inl (dT (dk_give u ((am i)))))), (a4, .inl (cI, 3060, .inl (dK (dk_give u ((am i))))))]) (b := h) (As := [.int (am i)]) (rest := []) ⟨hx, hb, hml, hown, hts⟩ [0] (k_D_give l D cI h a1 a2 a3 a4 u hu ((am i))) (cwV 1 hts v_C_68 rfl rfl rfl (by decide +kernel) ⟨Nat.le_of_ble_eq_true rfl, Nat.le_of_ble_eq_true rfl⟩) ⟨rfl, rfl, rfl, rfl, by decide⟩ rfl hK hP hD hS hA (va_recv (ci := 1) hK hP rfl (q0 := 6) rfl) rfl hl.1 (Nat.le_of_ble_eq_true rfl) d_C_openQuestion_30 ⟨Nat.le_of_ble_eq_true rfl, Nat.le_of_ble_eq_true rfl⟩ (fun H locs hP hD hS => ?_)
      have hP : va_P D cls_ [(q, .inr (3, [.ref h, .ref b, .ref g, .ref qa, .int (nI an), .int (nI vn), .int (nI kn), .int tm, .int (nI tn), .int 0, .int 0])), (qa, .inl (cI, 10, .inl (am))), (g, .inr (0, [.int f0])), (b, .inr (2, [.ref b1, .ref b2, .int (nI (sn s)), .int (sh s)])), (b1, .inl (cI, 10, .inl (sT s))), (b2, .inl (cI, 10, .inl (sR s))), (h, .inr (1, [.ref a1, .ref a2, .ref a3, .ref a4, .int (nI (dz (dk_give u ((am i))))), .int (nI (dl (dk_give u ((am i))))), .int (nI (dO (dk_give u ((am i)))))])), (a1, .inl (cI, 1575, .inl (dC (dk_give u ((am i)))))), (a2, .inl (cI, 1575, .inl (dF (dk_give u ((am i)))))), (a3, .inl (cI, 1575, .inl (dT (dk_give u ((am i)))))), (a4, .inl (cI, 3060, .inl (dK (dk_give u ((am i))))))] H := hP
      have hD : va_D A [(q, .inr (3, [.ref h, .ref b, .ref g, .ref qa, .int (nI an), .int (nI vn), .int (nI kn), .int tm, .int (nI tn), .int 0, .int 0])), (qa, .inl (cI, 10, .inl (am))), (g, .inr (0, [.int f0])), (b, .inr (2, [.ref b1, .ref b2, .int (nI (sn s)), .int (sh s)])), (b1, .inl (cI, 10, .inl (sT s))), (b2, .inl (cI, 10, .inl (sR s))), (h, .inr (1, [.ref a1, .ref a2, .ref a3, .ref a4, .int (nI (dz (dk_give u ((am i))))), .int (nI (dl (dk_give u ((am i))))), .int (nI (dO (dk_give u ((am i)))))])), (a1, .inl (cI, 1575, .inl (dC (dk_give u ((am i)))))), (a2, .inl (cI, 1575, .inl (dF (dk_give u ((am i)))))), (a3, .inl (cI, 1575, .inl (dT (dk_give u ((am i)))))), (a4, .inl (cI, 3060, .inl (dK (dk_give u ((am i))))))] := hD
      refine lv_iinc (k := 0) (v := (nI (i + 1))) (lv' := [(1, .int (nI (i + 1))), (0, .ref q)]) hx hb d_C_openQuestion_33 hl rfl (nI_1 i) (by decide) rfl (fun ls hl => ?_)
      refine lv_goto (tgt := 12) hx hb d_C_openQuestion_36 rfl ?_
      exact ih (i + 1) (dk_give u (am i)) ls H locs (by omega) (DW_append hu) he hP hD hS (lv_sub hl [0, 1] rfl)
  refine lv_aload_n hx hb d_C_openQuestion_0 rfl (lv_at hl 0 rfl) ?_
  refine lv_iconst (v := 0) hx hb d_C_openQuestion_1 (by decide) ?_
  refine va_put (D := D) (ci := 3) (v := .int 0) (ty := .boolean) (C := R_C) (T := T_C) (N := 11) hx hb hts u_C t_C t_C_ok n_C hown hK hP hD hS 0 rfl rfl 9 (by decide) (hts _ f_C_83) (fun _ h9 => h9) rfl (by decide +kernel) rfl rfl (Nat.le_of_ble_eq_true rfl) d_C_openQuestion_2 (fun H locs hP hD hS => ?_)
  have hP : va_P D cls_ [(q, .inr (3, [.ref h, .ref b, .ref g, .ref qa, .int (nI an), .int (nI vn), .int (nI kn), .int tm, .int (nI tn), .int 0, .int mo])), (qa, .inl (cI, 10, .inl (am))), (g, .inr (0, [.int f0])), (b, .inr (2, [.ref b1, .ref b2, .int (nI (sn s)), .int (sh s)])), (b1, .inl (cI, 10, .inl (sT s))), (b2, .inl (cI, 10, .inl (sR s))), (h, .inr (1, [.ref a1, .ref a2, .ref a3, .ref a4, .int (nI (dz d)), .int (nI (dl d)), .int (nI (dO d))])), (a1, .inl (cI, 1575, .inl (dC d))), (a2, .inl (cI, 1575, .inl (dF d))), (a3, .inl (cI, 1575, .inl (dT d))), (a4, .inl (cI, 3060, .inl (dK d)))] H := hP
  have hD : va_D A [(q, .inr (3, [.ref h, .ref b, .ref g, .ref qa, .int (nI an), .int (nI vn), .int (nI kn), .int tm, .int (nI tn), .int 0, .int mo])), (qa, .inl (cI, 10, .inl (am))), (g, .inr (0, [.int f0])), (b, .inr (2, [.ref b1, .ref b2, .int (nI (sn s)), .int (sh s)])), (b1, .inl (cI, 10, .inl (sT s))), (b2, .inl (cI, 10, .inl (sR s))), (h, .inr (1, [.ref a1, .ref a2, .ref a3, .ref a4, .int (nI (dz d)), .int (nI (dl d)), .int (nI (dO d))])), (a1, .inl (cI, 1575, .inl (dC d))), (a2, .inl (cI, 1575, .inl (dF d))), (a3, .inl (cI, 1575, .inl (dT d))), (a4, .inl (cI, 3060, .inl (dK d)))] := hD
  refine lv_aload_n hx hb d_C_openQuestion_5 rfl (lv_at hl 0 rfl) ?_
  refine lv_iconst (v := 0) hx hb d_C_openQuestion_6 (by decide) ?_
  refine va_put (D := D) (ci := 3) (v := .int 0) (ty := .int) (C := R_C) (T := T_C) (N := 11) hx hb hts u_C t_C t_C_ok n_C hown hK hP hD hS 0 rfl rfl 10 (by decide) (hts _ f_C_91) (fun _ h9 => h9) rfl (by decide +kernel) rfl rfl (Nat.le_of_ble_eq_true rfl) d_C_openQuestion_7 (fun H locs hP hD hS => ?_)
  have hP : va_P D cls_ [(q, .inr (3, [.ref h, .ref b, .ref g, .ref qa, .int (nI an), .int (nI vn), .int (nI kn), .int tm, .int (nI tn), .int 0, .int 0])), (qa, .inl (cI, 10, .inl (am))), (g, .inr (0, [.int f0])), (b, .inr (2, [.ref b1, .ref b2, .int (nI (sn s)), .int (sh s)])), (b1, .inl (cI, 10, .inl (sT s))), (b2, .inl (cI, 10, .inl (sR s))), (h, .inr (1, [.ref a1, .ref a2, .ref a3, .ref a4, .int (nI (dz d)), .int (nI (dl d)), .int (nI (dO d))])), (a1, .inl (cI, 1575, .inl (dC d))), (a2, .inl (cI, 1575, .inl (dF d))), (a3, .inl (cI, 1575, .inl (dT d))), (a4, .inl (cI, 3060, .inl (dK d)))] H := hP
  have hD : va_D A [(q, .inr (3, [.ref h, .ref b, .ref g, .ref qa, .int (nI an), .int (nI vn), .int (nI kn), .int tm, .int (nI tn), .int 0, .int 0])), (qa, .inl (cI, 10, .inl (am))), (g, .inr (0, [.int f0])), (b, .inr (2, [.ref b1, .ref b2, .int (nI (sn s)), .int (sh s)])), (b1, .inl (cI, 10, .inl (sT s))), (b2, .inl (cI, 10, .inl (sR s))), (h, .inr (1, [.ref a1, .ref a2, .ref a3, .ref a4, .int (nI (dz d)), .int (nI (dl d)), .int (nI (dO d))])), (a1, .inl (cI, 1575, .inl (dC d))), (a2, .inl (cI, 1575, .inl (dF d))), (a3, .inl (cI, 1575, .inl (dT d))), (a4, .inl (cI, 3060, .inl (dK d)))] := hD
  refine lv_iconst (v := 0) hx hb d_C_openQuestion_10 (by decide) ?_
  refine lv_istore_n (lv' := [(1, .int 0), (0, .ref q)]) hx hb d_C_openQuestion_11 rfl hl (by decide) rfl (fun ls hl => ?_)
  exact loop an 0 d ls H locs (by omega) hd hT hP hD hS (lv_sub hl [0, 1] rfl)
set_option maxHeartbeats 4000000 in
set_option maxRecDepth 100000 in
theorem k_C_nextModel (l : Launch) (D : va_G) (cI : ClassId) (q qa g b b1 b2 h a1 a2 a3 a4 : Nat) (am : Nat → Int32) (an vn kn : Nat) (tm : Int32) (tn : Nat) (hm mo f0 : Int32) (s : SS) (d : DS) (hvn : vn ≤ 10) (t : Nat → Nat) (L g0 : Nat) (hg0 : g0 ≤ 551) (hFI : FI vn d s t L g0) : KTi l y_C_nextModel c_C_nextModel 2 .boolean { frames := 5, cells := 0, slots := 0, locals := 116 } D [(cI, .int)] [.ref q] (wC cI q qa g b b1 b2 h a1 a2 a3 a4 am an vn kn tm tn hm mo f0 s d) (if (sr_find vn 100000 d s).1 = true then 1 else 0) (wC cI q qa g b b1 b2 h a1 a2 a3 a4 am an vn kn tm tn hm mo f0 ((sr_find vn 100000 d s).2.2) ((sr_find vn 100000 d s).2.1)) := by
  refine KTi_of (own := R_C) (by decide +kernel) rfl (Nat.le_of_ble_eq_true rfl) (nar_if _) ?_
  intro p e st m below meth c A ls Q hx hb hml hts hown hK hP hD hS hA hl fin
  have hd := FI_DW hg0 hFI
  have hs : sn s ≤ 10 := Nat.le_trans (TR_len hFI.2.1).1 hvn
  obtain ⟨hd2, hT1, hT2⟩ := next_ok hvn hg0 hFI
  have hs2 : sn (sr_find vn 100000 d s).2.2 ≤ 10 := find_le 100000 d hs
  refine lv_aload_n hx hb d_C_nextModel_0 rfl (lv_at hl 0 rfl) ?_
  refine va_get (D := D) (ci := 3) (v := .ref b) (C := R_C) (T := T_C) (N := 11) hx hb hts u_C hown hK hP 0 rfl rfl 1 (by decide) (hts _ f_C_19) (fun _ h9 => h9) rfl d_C_nextModel_1 ?_
  refine lv_aload_n hx hb d_C_nextModel_4 rfl (lv_at hl 0 rfl) ?_
  refine va_get (D := D) (ci := 3) (v := .ref h) (C := R_C) (T := T_C) (N := 11) hx hb hts u_C hown hK hP 0 rfl rfl 0 (by decide) (hts _ f_C_10) (fun _ h9 => h9) rfl d_C_nextModel_5 ?_
  refine lv_aload_n hx hb d_C_nextModel_8 rfl (lv_at hl 0 rfl) ?_
  refine va_get (D := D) (ci := 3) (v := .int (nI vn)) (C := R_C) (T := T_C) (N := 11) hx hb hts u_C hown hK hP 0 rfl rfl 5 (by decide) (hts _ f_C_34) (fun _ h9 => h9) rfl d_C_nextModel_9 ?_
  refine CTi_V (isC := [3, 4, 5, 6, 7, 8, 9, 10]) (isR := [0, 1, 2]) (wr := [(q, .inr (3, [.ref h, .ref b, .ref g, .ref qa, .int (nI an), .int (nI vn), .int (nI kn), .int tm, .int (nI tn), .int hm, .int mo])), (qa, .inl (cI, 10, .inl (am))), (g, .inr (0, [.int f0]))]) (wi := [(b, .inr (2, [.ref b1, .ref b2, .int (nI (sn s)), .int (sh s)])), (b1, .inl (cI, 10, .inl (sT s))), (b2, .inl (cI, 10, .inl (sR s))), (h, .inr (1, [.ref a1, .ref a2, .ref a3, .ref a4, .int (nI (dz d)), .int (nI (dl d)), .int (nI (dO d))])), (a1, .inl (cI, 1575, .inl (dC d))), (a2, .inl (cI, 1575, .inl (dF d))), (a3, .inl (cI, 1575, .inl (dT d))), (a4, .inl (cI, 3060, .inl (dK d)))]) (wo := [(b, .inr (2, [.ref b1, .ref b2, .int (nI (sn (sr_find vn 100000 d s).2.2)), .int (sh (sr_find vn 100000 d s).2.2)])), (b1, .inl (cI, 10, .inl (sT (sr_find vn 100000 d s).2.2))), (b2, .inl (cI, 10, .inl (sR (sr_find vn 100000 d s).2.2))), (h, .inr (1, [.ref a1, .ref a2, .ref a3, .ref a4, .int (nI (dz (sr_find vn 100000 d s).2.1)), .int (nI (dl (sr_find vn 100000 d s).2.1)), .int (nI (dO (sr_find vn 100000 d s).2.1))])), (a1, .inl (cI, 1575, .inl (dC (sr_find vn 100000 d s).2.1))), (a2, .inl (cI, 1575, .inl (dF (sr_find vn 100000 d s).2.1))), (a3, .inl (cI, 1575, .inl (dT (sr_find vn 100000 d s).2.1))), (a4, .inl (cI, 3060, .inl (dK (sr_find vn 100000 d s).2.1)))]) (b := b) (As := [.ref h, .int (nI vn)]) (rest := []) ⟨hx, hb, hml, hown, hts⟩ [0] (k_S_findModel l D cI b b1 b2 h a1 a2 a3 a4 s hs d hd (nI vn) vn hvn rfl) (cwV 2 hts v_C_118 rfl rfl rfl (by decide +kernel) ⟨Nat.le_of_ble_eq_true rfl, Nat.le_of_ble_eq_true rfl⟩) ⟨rfl, rfl, rfl, rfl, by decide⟩ rfl hK hP hD hS hA (va_recv (ci := 2) hK hP rfl (q0 := 3) rfl) rfl hl.1 (Nat.le_of_ble_eq_true rfl) d_C_nextModel_12 ⟨Nat.le_of_ble_eq_true rfl, Nat.le_of_ble_eq_true rfl⟩ (fun H locs hP hD hS => ?_)
  have hP : va_P D cls_ [(q, .inr (3, [.ref h, .ref b, .ref g, .ref qa, .int (nI an), .int (nI vn), .int (nI kn), .int tm, .int (nI tn), .int hm, .int mo])), (qa, .inl (cI, 10, .inl (am))), (g, .inr (0, [.int f0])), (b, .inr (2, [.ref b1, .ref b2, .int (nI (sn (sr_find vn 100000 d s).2.2)), .int (sh (sr_find vn 100000 d s).2.2)])), (b1, .inl (cI, 10, .inl (sT (sr_find vn 100000 d s).2.2))), (b2, .inl (cI, 10, .inl (sR (sr_find vn 100000 d s).2.2))), (h, .inr (1, [.ref a1, .ref a2, .ref a3, .ref a4, .int (nI (dz (sr_find vn 100000 d s).2.1)), .int (nI (dl (sr_find vn 100000 d s).2.1)), .int (nI (dO (sr_find vn 100000 d s).2.1))])), (a1, .inl (cI, 1575, .inl (dC (sr_find vn 100000 d s).2.1))), (a2, .inl (cI, 1575, .inl (dF (sr_find vn 100000 d s).2.1))), (a3, .inl (cI, 1575, .inl (dT (sr_find vn 100000 d s).2.1))), (a4, .inl (cI, 3060, .inl (dK (sr_find vn 100000 d s).2.1)))] H := hP
  have hD : va_D A [(q, .inr (3, [.ref h, .ref b, .ref g, .ref qa, .int (nI an), .int (nI vn), .int (nI kn), .int tm, .int (nI tn), .int hm, .int mo])), (qa, .inl (cI, 10, .inl (am))), (g, .inr (0, [.int f0])), (b, .inr (2, [.ref b1, .ref b2, .int (nI (sn (sr_find vn 100000 d s).2.2)), .int (sh (sr_find vn 100000 d s).2.2)])), (b1, .inl (cI, 10, .inl (sT (sr_find vn 100000 d s).2.2))), (b2, .inl (cI, 10, .inl (sR (sr_find vn 100000 d s).2.2))), (h, .inr (1, [.ref a1, .ref a2, .ref a3, .ref a4, .int (nI (dz (sr_find vn 100000 d s).2.1)), .int (nI (dl (sr_find vn 100000 d s).2.1)), .int (nI (dO (sr_find vn 100000 d s).2.1))])), (a1, .inl (cI, 1575, .inl (dC (sr_find vn 100000 d s).2.1))), (a2, .inl (cI, 1575, .inl (dF (sr_find vn 100000 d s).2.1))), (a3, .inl (cI, 1575, .inl (dT (sr_find vn 100000 d s).2.1))), (a4, .inl (cI, 3060, .inl (dK (sr_find vn 100000 d s).2.1)))] := hD
  refine lv_istore_n (lv' := [(1, .int (if (sr_find vn 100000 d s).1 = true then 1 else 0)), (0, .ref q)]) hx hb d_C_nextModel_15 rfl hl (by decide) rfl (fun ls hl => ?_)
  refine lv_iload_n hx hb d_C_nextModel_16 rfl (lv_at hl 0 rfl) ?_
  refine lv_if_eq (tgt := 45) hx hb d_C_nextModel_17 rfl (fun hc17 => ?_) (fun hc17 => ?_)
  · refine lv_aload_n hx hb d_C_nextModel_45 rfl (lv_at hl 1 rfl) ?_
    refine va_get (D := D) (ci := 3) (v := .ref g) (C := R_C) (T := T_C) (N := 11) hx hb hts u_C hown hK hP 0 rfl rfl 2 (by decide) (hts _ f_C_26) (fun _ h9 => h9) rfl d_C_nextModel_46 ?_
    refine lv_aload_n hx hb d_C_nextModel_49 rfl (lv_at hl 1 rfl) ?_
    refine va_get (D := D) (ci := 3) (v := .ref h) (C := R_C) (T := T_C) (N := 11) hx hb hts u_C hown hK hP 0 rfl rfl 0 (by decide) (hts _ f_C_10) (fun _ h9 => h9) rfl d_C_nextModel_50 ?_
    refine CTv_V (isC := [2, 6, 7, 8, 9, 10]) (isR := [0, 1, 3, 4, 5]) (wr := [(q, .inr (3, [.ref h, .ref b, .ref g, .ref qa, .int (nI an), .int (nI vn), .int (nI kn), .int tm, .int (nI tn), .int hm, .int mo])), (qa, .inl (cI, 10, .inl (am))), (b, .inr (2, [.ref b1, .ref b2, .int (nI (sn (sr_find vn 100000 d s).2.2)), .int (sh (sr_find vn 100000 d s).2.2)])), (b1, .inl (cI, 10, .inl (sT (sr_find vn 100000 d s).2.2))), (b2, .inl (cI, 10, .inl (sR (sr_find vn 100000 d s).2.2)))]) (wi := [(g, .inr (0, [.int f0])), (h, .inr (1, [.ref a1, .ref a2, .ref a3, .ref a4, .int (nI (dz (sr_find vn 100000 d s).2.1)), .int (nI (dl (sr_find vn 100000 d s).2.1)), .int (nI (dO (sr_find vn 100000 d s).2.1))])), (a1, .inl (cI, 1575, .inl (dC (sr_find vn 100000 d s).2.1))), (a2, .inl (cI, 1575, .inl (dF (sr_find vn 100000 d s).2.1))), (a3, .inl (cI, 1575, .inl (dT (sr_find vn 100000 d s).2.1))), (a4, .inl (cI, 3060, .inl (dK (sr_find vn 100000 d s).2.1)))]) (wo := [(g, .inr (0, [.int f0])), (h, .inr (1, [.ref a1, .ref a2, .ref a3, .ref a4, .int (nI (dz (sr_find vn 100000 d s).2.1)), .int (nI (dl (sr_find vn 100000 d s).2.1)), .int (nI (dO (sr_find vn 100000 d s).2.1))])), (a1, .inl (cI, 1575, .inl (dC (sr_find vn 100000 d s).2.1))), (a2, .inl (cI, 1575, .inl (dF (sr_find vn 100000 d s).2.1))), (a3, .inl (cI, 1575, .inl (dT (sr_find vn 100000 d s).2.1))), (a4, .inl (cI, 3060, .inl (dK (sr_find vn 100000 d s).2.1)))]) (b := g) (As := [.ref h]) (rest := []) ⟨hx, hb, hml, hown, hts⟩ [0] (k_H_checkProof l D cI g f0 h a1 a2 a3 a4 (sr_find vn 100000 d s).2.1 hd2 (hT2 (Bool.eq_false_iff.mpr (it0 hc17))).1 (hT2 (Bool.eq_false_iff.mpr (it0 hc17))).2.1 (hT2 (Bool.eq_false_iff.mpr (it0 hc17))).2.2.1 (hT2 (Bool.eq_false_iff.mpr (it0 hc17))).2.2.2) (cwV 1 hts v_C_126 rfl rfl rfl (by decide +kernel) ⟨Nat.le_of_ble_eq_true rfl, Nat.le_of_ble_eq_true rfl⟩) ⟨rfl, rfl, rfl, rfl, by decide⟩ rfl hK hP hD hS hA (va_recv (ci := 0) hK hP rfl (q0 := 2) rfl) rfl hl.1 (Nat.le_of_ble_eq_true rfl) d_C_nextModel_53 ⟨Nat.le_of_ble_eq_true rfl, Nat.le_of_ble_eq_true rfl⟩ (fun H locs hP hD hS => ?_)
    have hP : va_P D cls_ [(q, .inr (3, [.ref h, .ref b, .ref g, .ref qa, .int (nI an), .int (nI vn), .int (nI kn), .int tm, .int (nI tn), .int hm, .int mo])), (qa, .inl (cI, 10, .inl (am))), (b, .inr (2, [.ref b1, .ref b2, .int (nI (sn (sr_find vn 100000 d s).2.2)), .int (sh (sr_find vn 100000 d s).2.2)])), (b1, .inl (cI, 10, .inl (sT (sr_find vn 100000 d s).2.2))), (b2, .inl (cI, 10, .inl (sR (sr_find vn 100000 d s).2.2))), (g, .inr (0, [.int f0])), (h, .inr (1, [.ref a1, .ref a2, .ref a3, .ref a4, .int (nI (dz (sr_find vn 100000 d s).2.1)), .int (nI (dl (sr_find vn 100000 d s).2.1)), .int (nI (dO (sr_find vn 100000 d s).2.1))])), (a1, .inl (cI, 1575, .inl (dC (sr_find vn 100000 d s).2.1))), (a2, .inl (cI, 1575, .inl (dF (sr_find vn 100000 d s).2.1))), (a3, .inl (cI, 1575, .inl (dT (sr_find vn 100000 d s).2.1))), (a4, .inl (cI, 3060, .inl (dK (sr_find vn 100000 d s).2.1)))] H := hP
    have hD : va_D A [(q, .inr (3, [.ref h, .ref b, .ref g, .ref qa, .int (nI an), .int (nI vn), .int (nI kn), .int tm, .int (nI tn), .int hm, .int mo])), (qa, .inl (cI, 10, .inl (am))), (b, .inr (2, [.ref b1, .ref b2, .int (nI (sn (sr_find vn 100000 d s).2.2)), .int (sh (sr_find vn 100000 d s).2.2)])), (b1, .inl (cI, 10, .inl (sT (sr_find vn 100000 d s).2.2))), (b2, .inl (cI, 10, .inl (sR (sr_find vn 100000 d s).2.2))), (g, .inr (0, [.int f0])), (h, .inr (1, [.ref a1, .ref a2, .ref a3, .ref a4, .int (nI (dz (sr_find vn 100000 d s).2.1)), .int (nI (dl (sr_find vn 100000 d s).2.1)), .int (nI (dO (sr_find vn 100000 d s).2.1))])), (a1, .inl (cI, 1575, .inl (dC (sr_find vn 100000 d s).2.1))), (a2, .inl (cI, 1575, .inl (dF (sr_find vn 100000 d s).2.1))), (a3, .inl (cI, 1575, .inl (dT (sr_find vn 100000 d s).2.1))), (a4, .inl (cI, 3060, .inl (dK (sr_find vn 100000 d s).2.1)))] := hD
    refine lv_iload_n hx hb d_C_nextModel_56 rfl (lv_at hl 0 rfl) ?_
    have hP := hP.sub (ws' := [(q, .inr (3, [.ref h, .ref b, .ref g, .ref qa, .int (nI an), .int (nI vn), .int (nI kn), .int tm, .int (nI tn), .int hm, .int mo])), (qa, .inl (cI, 10, .inl (am))), (g, .inr (0, [.int f0])), (b, .inr (2, [.ref b1, .ref b2, .int (nI (sn (sr_find vn 100000 d s).2.2)), .int (sh (sr_find vn 100000 d s).2.2)])), (b1, .inl (cI, 10, .inl (sT (sr_find vn 100000 d s).2.2))), (b2, .inl (cI, 10, .inl (sR (sr_find vn 100000 d s).2.2))), (h, .inr (1, [.ref a1, .ref a2, .ref a3, .ref a4, .int (nI (dz (sr_find vn 100000 d s).2.1)), .int (nI (dl (sr_find vn 100000 d s).2.1)), .int (nI (dO (sr_find vn 100000 d s).2.1))])), (a1, .inl (cI, 1575, .inl (dC (sr_find vn 100000 d s).2.1))), (a2, .inl (cI, 1575, .inl (dF (sr_find vn 100000 d s).2.1))), (a3, .inl (cI, 1575, .inl (dT (sr_find vn 100000 d s).2.1))), (a4, .inl (cI, 3060, .inl (dK (sr_find vn 100000 d s).2.1)))]) [0, 1, 5, 2, 3, 4, 6, 7, 8, 9, 10] rfl
    have hD := hD.sub (ws' := [(q, .inr (3, [.ref h, .ref b, .ref g, .ref qa, .int (nI an), .int (nI vn), .int (nI kn), .int tm, .int (nI tn), .int hm, .int mo])), (qa, .inl (cI, 10, .inl (am))), (g, .inr (0, [.int f0])), (b, .inr (2, [.ref b1, .ref b2, .int (nI (sn (sr_find vn 100000 d s).2.2)), .int (sh (sr_find vn 100000 d s).2.2)])), (b1, .inl (cI, 10, .inl (sT (sr_find vn 100000 d s).2.2))), (b2, .inl (cI, 10, .inl (sR (sr_find vn 100000 d s).2.2))), (h, .inr (1, [.ref a1, .ref a2, .ref a3, .ref a4, .int (nI (dz (sr_find vn 100000 d s).2.1)), .int (nI (dl (sr_find vn 100000 d s).2.1)), .int (nI (dO (sr_find vn 100000 d s).2.1))])), (a1, .inl (cI, 1575, .inl (dC (sr_find vn 100000 d s).2.1))), (a2, .inl (cI, 1575, .inl (dF (sr_find vn 100000 d s).2.1))), (a3, .inl (cI, 1575, .inl (dT (sr_find vn 100000 d s).2.1))), (a4, .inl (cI, 3060, .inl (dK (sr_find vn 100000 d s).2.1)))]) [0, 1, 5, 2, 3, 4, 6, 7, 8, 9, 10] (by decide) rfl
    exact fin _ _ _ _ _ hP hD hS (rfl) d_C_nextModel_57
  · refine lv_aload_n hx hb d_C_nextModel_20 rfl (lv_at hl 1 rfl) ?_
    refine va_get (D := D) (ci := 3) (v := .ref g) (C := R_C) (T := T_C) (N := 11) hx hb hts u_C hown hK hP 0 rfl rfl 2 (by decide) (hts _ f_C_26) (fun _ h9 => h9) rfl d_C_nextModel_21 ?_
    refine lv_aload_n hx hb d_C_nextModel_24 rfl (lv_at hl 1 rfl) ?_
    refine va_get (D := D) (ci := 3) (v := .ref h) (C := R_C) (T := T_C) (N := 11) hx hb hts u_C hown hK hP 0 rfl rfl 0 (by decide) (hts _ f_C_10) (fun _ h9 => h9) rfl d_C_nextModel_25 ?_
    refine lv_aload_n hx hb d_C_nextModel_28 rfl (lv_at hl 1 rfl) ?_
    refine va_get (D := D) (ci := 3) (v := .ref b) (C := R_C) (T := T_C) (N := 11) hx hb hts u_C hown hK hP 0 rfl rfl 1 (by decide) (hts _ f_C_19) (fun _ h9 => h9) rfl d_C_nextModel_29 ?_
    refine CTi_V (isC := [3, 4, 5]) (isR := [0, 1, 2, 6, 7, 8, 9, 10]) (wr := [(q, .inr (3, [.ref h, .ref b, .ref g, .ref qa, .int (nI an), .int (nI vn), .int (nI kn), .int tm, .int (nI tn), .int hm, .int mo])), (qa, .inl (cI, 10, .inl (am))), (g, .inr (0, [.int f0])), (h, .inr (1, [.ref a1, .ref a2, .ref a3, .ref a4, .int (nI (dz (sr_find vn 100000 d s).2.1)), .int (nI (dl (sr_find vn 100000 d s).2.1)), .int (nI (dO (sr_find vn 100000 d s).2.1))])), (a1, .inl (cI, 1575, .inl (dC (sr_find vn 100000 d s).2.1))), (a2, .inl (cI, 1575, .inl (dF (sr_find vn 100000 d s).2.1))), (a3, .inl (cI, 1575, .inl (dT (sr_find vn 100000 d s).2.1))), (a4, .inl (cI, 3060, .inl (dK (sr_find vn 100000 d s).2.1)))]) (wi := [(b, .inr (2, [.ref b1, .ref b2, .int (nI (sn (sr_find vn 100000 d s).2.2)), .int (sh (sr_find vn 100000 d s).2.2)])), (b1, .inl (cI, 10, .inl (sT (sr_find vn 100000 d s).2.2))), (b2, .inl (cI, 10, .inl (sR (sr_find vn 100000 d s).2.2)))]) (wo := [(b, .inr (2, [.ref b1, .ref b2, .int (nI (sn (sr_find vn 100000 d s).2.2)), .int (sh (sr_find vn 100000 d s).2.2)])), (b1, .inl (cI, 10, .inl (sT (sr_find vn 100000 d s).2.2))), (b2, .inl (cI, 10, .inl (sR (sr_find vn 100000 d s).2.2)))]) (b := b) (As := []) (rest := [.ref h, .ref g]) ⟨hx, hb, hml, hown, hts⟩ [0] (k_S_held l D cI b b1 b2 (sr_find vn 100000 d s).2.2 hs2) (cwV 0 hts v_C_87 rfl rfl rfl (by decide +kernel) ⟨Nat.le_of_ble_eq_true rfl, Nat.le_of_ble_eq_true rfl⟩) ⟨rfl, rfl, rfl, rfl, by decide⟩ rfl hK hP hD hS hA (va_recv (ci := 2) hK hP rfl (q0 := 3) rfl) rfl hl.1 (Nat.le_of_ble_eq_true rfl) d_C_nextModel_32 ⟨Nat.le_of_ble_eq_true rfl, Nat.le_of_ble_eq_true rfl⟩ (fun H locs hP hD hS => ?_)
    have hP : va_P D cls_ [(q, .inr (3, [.ref h, .ref b, .ref g, .ref qa, .int (nI an), .int (nI vn), .int (nI kn), .int tm, .int (nI tn), .int hm, .int mo])), (qa, .inl (cI, 10, .inl (am))), (g, .inr (0, [.int f0])), (h, .inr (1, [.ref a1, .ref a2, .ref a3, .ref a4, .int (nI (dz (sr_find vn 100000 d s).2.1)), .int (nI (dl (sr_find vn 100000 d s).2.1)), .int (nI (dO (sr_find vn 100000 d s).2.1))])), (a1, .inl (cI, 1575, .inl (dC (sr_find vn 100000 d s).2.1))), (a2, .inl (cI, 1575, .inl (dF (sr_find vn 100000 d s).2.1))), (a3, .inl (cI, 1575, .inl (dT (sr_find vn 100000 d s).2.1))), (a4, .inl (cI, 3060, .inl (dK (sr_find vn 100000 d s).2.1))), (b, .inr (2, [.ref b1, .ref b2, .int (nI (sn (sr_find vn 100000 d s).2.2)), .int (sh (sr_find vn 100000 d s).2.2)])), (b1, .inl (cI, 10, .inl (sT (sr_find vn 100000 d s).2.2))), (b2, .inl (cI, 10, .inl (sR (sr_find vn 100000 d s).2.2)))] H := hP
    have hD : va_D A [(q, .inr (3, [.ref h, .ref b, .ref g, .ref qa, .int (nI an), .int (nI vn), .int (nI kn), .int tm, .int (nI tn), .int hm, .int mo])), (qa, .inl (cI, 10, .inl (am))), (g, .inr (0, [.int f0])), (h, .inr (1, [.ref a1, .ref a2, .ref a3, .ref a4, .int (nI (dz (sr_find vn 100000 d s).2.1)), .int (nI (dl (sr_find vn 100000 d s).2.1)), .int (nI (dO (sr_find vn 100000 d s).2.1))])), (a1, .inl (cI, 1575, .inl (dC (sr_find vn 100000 d s).2.1))), (a2, .inl (cI, 1575, .inl (dF (sr_find vn 100000 d s).2.1))), (a3, .inl (cI, 1575, .inl (dT (sr_find vn 100000 d s).2.1))), (a4, .inl (cI, 3060, .inl (dK (sr_find vn 100000 d s).2.1))), (b, .inr (2, [.ref b1, .ref b2, .int (nI (sn (sr_find vn 100000 d s).2.2)), .int (sh (sr_find vn 100000 d s).2.2)])), (b1, .inl (cI, 10, .inl (sT (sr_find vn 100000 d s).2.2))), (b2, .inl (cI, 10, .inl (sR (sr_find vn 100000 d s).2.2)))] := hD
    refine lv_aload_n hx hb d_C_nextModel_35 rfl (lv_at hl 1 rfl) ?_
    refine va_get (D := D) (ci := 3) (v := .int (nI vn)) (C := R_C) (T := T_C) (N := 11) hx hb hts u_C hown hK hP 0 rfl rfl 5 (by decide) (hts _ f_C_34) (fun _ h9 => h9) rfl d_C_nextModel_36 ?_
    refine CTv_V (isC := [2, 3, 4, 5, 6, 7]) (isR := [0, 1, 8, 9, 10]) (wr := [(q, .inr (3, [.ref h, .ref b, .ref g, .ref qa, .int (nI an), .int (nI vn), .int (nI kn), .int tm, .int (nI tn), .int hm, .int mo])), (qa, .inl (cI, 10, .inl (am))), (b, .inr (2, [.ref b1, .ref b2, .int (nI (sn (sr_find vn 100000 d s).2.2)), .int (sh (sr_find vn 100000 d s).2.2)])), (b1, .inl (cI, 10, .inl (sT (sr_find vn 100000 d s).2.2))), (b2, .inl (cI, 10, .inl (sR (sr_find vn 100000 d s).2.2)))]) (wi := [(g, .inr (0, [.int f0])), (h, .inr (1, [.ref a1, .ref a2, .ref a3, .ref a4, .int (nI (dz (sr_find vn 100000 d s).2.1)), .int (nI (dl (sr_find vn 100000 d s).2.1)), .int (nI (dO (sr_find vn 100000 d s).2.1))])), (a1, .inl (cI, 1575, .inl (dC (sr_find vn 100000 d s).2.1))), (a2, .inl (cI, 1575, .inl (dF (sr_find vn 100000 d s).2.1))), (a3, .inl (cI, 1575, .inl (dT (sr_find vn 100000 d s).2.1))), (a4, .inl (cI, 3060, .inl (dK (sr_find vn 100000 d s).2.1)))]) (wo := [(g, .inr (0, [.int f0])), (h, .inr (1, [.ref a1, .ref a2, .ref a3, .ref a4, .int (nI (dz (sr_find vn 100000 d s).2.1)), .int (nI (dl (sr_find vn 100000 d s).2.1)), .int (nI (dO (sr_find vn 100000 d s).2.1))])), (a1, .inl (cI, 1575, .inl (dC (sr_find vn 100000 d s).2.1))), (a2, .inl (cI, 1575, .inl (dF (sr_find vn 100000 d s).2.1))), (a3, .inl (cI, 1575, .inl (dT (sr_find vn 100000 d s).2.1))), (a4, .inl (cI, 3060, .inl (dK (sr_find vn 100000 d s).2.1)))]) (b := g) (As := [.ref h, .int (sh (sr_find vn 100000 d s).2.2), .int (nI vn)]) (rest := []) ⟨hx, hb, hml, hown, hts⟩ [0] (k_H_checkModel l D cI g f0 h a1 a2 a3 a4 (sr_find vn 100000 d s).2.1 hd2 (sh (sr_find vn 100000 d s).2.2) vn (hT1 (it1 hc17)).1 (hT1 (it1 hc17)).2.1 (hT1 (it1 hc17)).2.2) (cwV 3 hts v_C_122 rfl rfl rfl (by decide +kernel) ⟨Nat.le_of_ble_eq_true rfl, Nat.le_of_ble_eq_true rfl⟩) ⟨rfl, rfl, rfl, rfl, by decide⟩ rfl hK hP hD hS hA (va_recv (ci := 0) hK hP rfl (q0 := 2) rfl) rfl hl.1 (Nat.le_of_ble_eq_true rfl) d_C_nextModel_39 ⟨Nat.le_of_ble_eq_true rfl, Nat.le_of_ble_eq_true rfl⟩ (fun H locs hP hD hS => ?_)
    have hP : va_P D cls_ [(q, .inr (3, [.ref h, .ref b, .ref g, .ref qa, .int (nI an), .int (nI vn), .int (nI kn), .int tm, .int (nI tn), .int hm, .int mo])), (qa, .inl (cI, 10, .inl (am))), (b, .inr (2, [.ref b1, .ref b2, .int (nI (sn (sr_find vn 100000 d s).2.2)), .int (sh (sr_find vn 100000 d s).2.2)])), (b1, .inl (cI, 10, .inl (sT (sr_find vn 100000 d s).2.2))), (b2, .inl (cI, 10, .inl (sR (sr_find vn 100000 d s).2.2))), (g, .inr (0, [.int f0])), (h, .inr (1, [.ref a1, .ref a2, .ref a3, .ref a4, .int (nI (dz (sr_find vn 100000 d s).2.1)), .int (nI (dl (sr_find vn 100000 d s).2.1)), .int (nI (dO (sr_find vn 100000 d s).2.1))])), (a1, .inl (cI, 1575, .inl (dC (sr_find vn 100000 d s).2.1))), (a2, .inl (cI, 1575, .inl (dF (sr_find vn 100000 d s).2.1))), (a3, .inl (cI, 1575, .inl (dT (sr_find vn 100000 d s).2.1))), (a4, .inl (cI, 3060, .inl (dK (sr_find vn 100000 d s).2.1)))] H := hP
    have hD : va_D A [(q, .inr (3, [.ref h, .ref b, .ref g, .ref qa, .int (nI an), .int (nI vn), .int (nI kn), .int tm, .int (nI tn), .int hm, .int mo])), (qa, .inl (cI, 10, .inl (am))), (b, .inr (2, [.ref b1, .ref b2, .int (nI (sn (sr_find vn 100000 d s).2.2)), .int (sh (sr_find vn 100000 d s).2.2)])), (b1, .inl (cI, 10, .inl (sT (sr_find vn 100000 d s).2.2))), (b2, .inl (cI, 10, .inl (sR (sr_find vn 100000 d s).2.2))), (g, .inr (0, [.int f0])), (h, .inr (1, [.ref a1, .ref a2, .ref a3, .ref a4, .int (nI (dz (sr_find vn 100000 d s).2.1)), .int (nI (dl (sr_find vn 100000 d s).2.1)), .int (nI (dO (sr_find vn 100000 d s).2.1))])), (a1, .inl (cI, 1575, .inl (dC (sr_find vn 100000 d s).2.1))), (a2, .inl (cI, 1575, .inl (dF (sr_find vn 100000 d s).2.1))), (a3, .inl (cI, 1575, .inl (dT (sr_find vn 100000 d s).2.1))), (a4, .inl (cI, 3060, .inl (dK (sr_find vn 100000 d s).2.1)))] := hD
    refine lv_goto (tgt := 56) hx hb d_C_nextModel_42 rfl ?_
    refine lv_iload_n hx hb d_C_nextModel_56 rfl (lv_at hl 0 rfl) ?_
    have hP := hP.sub (ws' := [(q, .inr (3, [.ref h, .ref b, .ref g, .ref qa, .int (nI an), .int (nI vn), .int (nI kn), .int tm, .int (nI tn), .int hm, .int mo])), (qa, .inl (cI, 10, .inl (am))), (g, .inr (0, [.int f0])), (b, .inr (2, [.ref b1, .ref b2, .int (nI (sn (sr_find vn 100000 d s).2.2)), .int (sh (sr_find vn 100000 d s).2.2)])), (b1, .inl (cI, 10, .inl (sT (sr_find vn 100000 d s).2.2))), (b2, .inl (cI, 10, .inl (sR (sr_find vn 100000 d s).2.2))), (h, .inr (1, [.ref a1, .ref a2, .ref a3, .ref a4, .int (nI (dz (sr_find vn 100000 d s).2.1)), .int (nI (dl (sr_find vn 100000 d s).2.1)), .int (nI (dO (sr_find vn 100000 d s).2.1))])), (a1, .inl (cI, 1575, .inl (dC (sr_find vn 100000 d s).2.1))), (a2, .inl (cI, 1575, .inl (dF (sr_find vn 100000 d s).2.1))), (a3, .inl (cI, 1575, .inl (dT (sr_find vn 100000 d s).2.1))), (a4, .inl (cI, 3060, .inl (dK (sr_find vn 100000 d s).2.1)))]) [0, 1, 5, 2, 3, 4, 6, 7, 8, 9, 10] rfl
    have hD := hD.sub (ws' := [(q, .inr (3, [.ref h, .ref b, .ref g, .ref qa, .int (nI an), .int (nI vn), .int (nI kn), .int tm, .int (nI tn), .int hm, .int mo])), (qa, .inl (cI, 10, .inl (am))), (g, .inr (0, [.int f0])), (b, .inr (2, [.ref b1, .ref b2, .int (nI (sn (sr_find vn 100000 d s).2.2)), .int (sh (sr_find vn 100000 d s).2.2)])), (b1, .inl (cI, 10, .inl (sT (sr_find vn 100000 d s).2.2))), (b2, .inl (cI, 10, .inl (sR (sr_find vn 100000 d s).2.2))), (h, .inr (1, [.ref a1, .ref a2, .ref a3, .ref a4, .int (nI (dz (sr_find vn 100000 d s).2.1)), .int (nI (dl (sr_find vn 100000 d s).2.1)), .int (nI (dO (sr_find vn 100000 d s).2.1))])), (a1, .inl (cI, 1575, .inl (dC (sr_find vn 100000 d s).2.1))), (a2, .inl (cI, 1575, .inl (dF (sr_find vn 100000 d s).2.1))), (a3, .inl (cI, 1575, .inl (dT (sr_find vn 100000 d s).2.1))), (a4, .inl (cI, 3060, .inl (dK (sr_find vn 100000 d s).2.1)))]) [0, 1, 5, 2, 3, 4, 6, 7, 8, 9, 10] (by decide) rfl
    exact fin _ _ _ _ _ hP hD hS (rfl) d_C_nextModel_57
set_option maxHeartbeats 4000000 in
set_option maxRecDepth 100000 in
theorem k_C_endQuestion (l : Launch) (D : va_G) (cI : ClassId) (q qa g b b1 b2 h a1 a2 a3 a4 : Nat) (am : Nat → Int32) (an vn kn : Nat) (tm : Int32) (tn : Nat) (hm mo f0 : Int32) (s : SS) (d : DS) (hd : DW d) (hkn : kn ≤ 500) : KTv l y_C_endQuestion c_C_endQuestion 1 { frames := 2, cells := 0, slots := 0, locals := 42 } D [(cI, .int)] [.ref q] (wC cI q qa g b b1 b2 h a1 a2 a3 a4 am an vn kn tm tn hm mo f0 s d) (wC cI q qa g b b1 b2 h a1 a2 a3 a4 am an vn kn tm tn hm mo f0 s ((dk_keep d kn))) := by
  refine KTv_of (own := R_C) (by decide +kernel) rfl (Nat.le_of_ble_eq_true rfl) ?_
  intro p e st m below meth c A ls Q hx hb hml hts hown hK hP hD hS hA hl fin
  refine lv_aload_n hx hb d_C_endQuestion_0 rfl (lv_at hl 0 rfl) ?_
  refine va_get (D := D) (ci := 3) (v := .ref h) (C := R_C) (T := T_C) (N := 11) hx hb hts u_C hown hK hP 0 rfl rfl 0 (by decide) (hts _ f_C_10) (fun _ h9 => h9) rfl d_C_endQuestion_1 ?_
  refine lv_aload_n hx hb d_C_endQuestion_4 rfl (lv_at hl 0 rfl) ?_
  refine va_get (D := D) (ci := 3) (v := .int (nI kn)) (C := R_C) (T := T_C) (N := 11) hx hb hts u_C hown hK hP 0 rfl rfl 6 (by decide) (hts _ f_C_63) (fun _ h9 => h9) rfl d_C_endQuestion_5 ?_
  refine CTv_V (isC := [6, 7, 8, 9, 10]) (isR := [0, 1, 2, 3, 4, 5]) (wr := [(q, .inr (3, [.ref h, .ref b, .ref g, .ref qa, .int (nI an), .int (nI vn), .int (nI kn), .int tm, .int (nI tn), .int hm, .int mo])), (qa, .inl (cI, 10, .inl (am))), (g, .inr (0, [.int f0])), (b, .inr (2, [.ref b1, .ref b2, .int (nI (sn s)), .int (sh s)])), (b1, .inl (cI, 10, .inl (sT s))), (b2, .inl (cI, 10, .inl (sR s)))]) (wi := [(h, .inr (1, [.ref a1, .ref a2, .ref a3, .ref a4, .int (nI (dz d)), .int (nI (dl d)), .int (nI (dO d))])), (a1, .inl (cI, 1575, .inl (dC d))), (a2, .inl (cI, 1575, .inl (dF d))), (a3, .inl (cI, 1575, .inl (dT d))), (a4, .inl (cI, 3060, .inl (dK d)))]) (wo := [(h, .inr (1, [.ref a1, .ref a2, .ref a3, .ref a4, .int (nI (dz (dk_keep d kn))), .int (nI (dl (dk_keep d kn))), .int (nI (dO (dk_keep d kn)))])), (a1, .inl (cI, 1575, .inl (dC (dk_keep d kn)))), (a2, .inl (cI, 1575, .inl (dF (dk_keep d kn)))), (a3, .inl (cI, 1575, .inl (dT (dk_keep d kn)))), (a4, .inl (cI, 3060, .inl (dK (dk_keep d kn))))]) (b := h) (As := [.int (nI kn)]) (rest := []) ⟨hx, hb, hml, hown, hts⟩ [0] (k_D_keep l D cI h a1 a2 a3 a4 d hd (nI kn) kn (by omega) rfl) (cwV 1 hts v_C_130 rfl rfl rfl (by decide +kernel) ⟨Nat.le_of_ble_eq_true rfl, Nat.le_of_ble_eq_true rfl⟩) ⟨rfl, rfl, rfl, rfl, by decide⟩ rfl hK hP hD hS hA (va_recv (ci := 1) hK hP rfl (q0 := 6) rfl) rfl hl.1 (Nat.le_of_ble_eq_true rfl) d_C_endQuestion_8 ⟨Nat.le_of_ble_eq_true rfl, Nat.le_of_ble_eq_true rfl⟩ (fun H locs hP hD hS => ?_)
  have hP : va_P D cls_ [(q, .inr (3, [.ref h, .ref b, .ref g, .ref qa, .int (nI an), .int (nI vn), .int (nI kn), .int tm, .int (nI tn), .int hm, .int mo])), (qa, .inl (cI, 10, .inl (am))), (g, .inr (0, [.int f0])), (b, .inr (2, [.ref b1, .ref b2, .int (nI (sn s)), .int (sh s)])), (b1, .inl (cI, 10, .inl (sT s))), (b2, .inl (cI, 10, .inl (sR s))), (h, .inr (1, [.ref a1, .ref a2, .ref a3, .ref a4, .int (nI (dz (dk_keep d kn))), .int (nI (dl (dk_keep d kn))), .int (nI (dO (dk_keep d kn)))])), (a1, .inl (cI, 1575, .inl (dC (dk_keep d kn)))), (a2, .inl (cI, 1575, .inl (dF (dk_keep d kn)))), (a3, .inl (cI, 1575, .inl (dT (dk_keep d kn)))), (a4, .inl (cI, 3060, .inl (dK (dk_keep d kn))))] H := hP
  have hD : va_D A [(q, .inr (3, [.ref h, .ref b, .ref g, .ref qa, .int (nI an), .int (nI vn), .int (nI kn), .int tm, .int (nI tn), .int hm, .int mo])), (qa, .inl (cI, 10, .inl (am))), (g, .inr (0, [.int f0])), (b, .inr (2, [.ref b1, .ref b2, .int (nI (sn s)), .int (sh s)])), (b1, .inl (cI, 10, .inl (sT s))), (b2, .inl (cI, 10, .inl (sR s))), (h, .inr (1, [.ref a1, .ref a2, .ref a3, .ref a4, .int (nI (dz (dk_keep d kn))), .int (nI (dl (dk_keep d kn))), .int (nI (dO (dk_keep d kn)))])), (a1, .inl (cI, 1575, .inl (dC (dk_keep d kn)))), (a2, .inl (cI, 1575, .inl (dF (dk_keep d kn)))), (a3, .inl (cI, 1575, .inl (dT (dk_keep d kn)))), (a4, .inl (cI, 3060, .inl (dK (dk_keep d kn))))] := hD
  exact fin _ _ _ _ hP hD hS d_C_endQuestion_11
set_option maxHeartbeats 4000000 in
set_option maxRecDepth 100000 in
theorem k_C_solve (l : Launch) (D : va_G) (cI : ClassId) (q qa g b b1 b2 h a1 a2 a3 a4 : Nat) (am : Nat → Int32) (an vn kn : Nat) (tm : Int32) (tn : Nat) (hm mo f0 : Int32) (s : SS) (d : DS) (han : an ≤ 10) (hkn : kn ≤ 500) (hs : sn s ≤ 10) (hd : DW d) (hvn : vn ≤ 10) (t : Nat → Nat) (g0 : Nat) (hg0 : g0 ≤ 551) (hFI : FI vn (gv am an 0 d) (sT s, sR s, 0, 0) t 0 g0) : KTi l y_C_solve c_C_solve 1 .boolean { frames := 6, cells := 0, slots := 0, locals := 137 } D [(cI, .int)] [.ref q] (wC cI q qa g b b1 b2 h a1 a2 a3 a4 am an vn kn tm tn hm mo f0 s d) (if (sr_find vn 100000 (gv am an 0 d) (sT s, sR s, 0, 0)).1 = true then 1 else 0) (wC cI q qa g b b1 b2 h a1 a2 a3 a4 am 0 vn kn tm tn ((if (sr_find vn 100000 (gv am an 0 d) (sT s, sR s, 0, 0)).1 = true then 1 else 0)) ((if (sr_find vn 100000 (gv am an 0 d) (sT s, sR s, 0, 0)).1 = true then sh (sr_find vn 100000 (gv am an 0 d) (sT s, sR s, 0, 0)).2.2 else 0)) f0 ((sr_find vn 100000 (gv am an 0 d) (sT s, sR s, 0, 0)).2.2) ((dk_keep (sr_find vn 100000 (gv am an 0 d) (sT s, sR s, 0, 0)).2.1 kn))) := by
  refine KTi_of (own := R_C) (by decide +kernel) rfl (Nat.le_of_ble_eq_true rfl) (nar_if _) ?_
  intro p e st m below meth c A ls Q hx hb hml hts hown hK hP hD hS hA hl fin
  obtain ⟨hd2, -, -⟩ := next_ok hvn hg0 hFI
  have hs2 : sn (sr_find vn 100000 (gv am an 0 d) (sT s, sR s, 0, 0)).2.2 ≤ 10 := find_le 100000 _ (show 0 ≤ 10 by omega)
  refine lv_aload_n hx hb d_C_solve_0 rfl (lv_at hl 0 rfl) ?_
  refine CTv_V (isC := [0, 1, 2, 3, 4, 5, 6, 7, 8, 9, 10]) (isR := []) (wr := []) (wi := [(q, .inr (3, [.ref h, .ref b, .ref g, .ref qa, .int (nI an), .int (nI vn), .int (nI kn), .int tm, .int (nI tn), .int hm, .int mo])), (qa, .inl (cI, 10, .inl (am))), (g, .inr (0, [.int f0])), (b, .inr (2, [.ref b1, .ref b2, .int (nI (sn s)), .int (sh s)])), (b1, .inl (cI, 10, .inl (sT s))), (b2, .inl (cI, 10, .inl (sR s))), (h, .inr (1, [.ref a1, .ref a2, .ref a3, .ref a4, .int (nI (dz d)), .int (nI (dl d)), .int (nI (dO d))])), (a1, .inl (cI, 1575, .inl (dC d))), (a2, .inl (cI, 1575, .inl (dF d))), (a3, .inl (cI, 1575, .inl (dT d))), (a4, .inl (cI, 3060, .inl (dK d)))]) (wo := [(q, .inr (3, [.ref h, .ref b, .ref g, .ref qa, .int (nI 0), .int (nI vn), .int (nI kn), .int tm, .int (nI tn), .int 0, .int 0])), (qa, .inl (cI, 10, .inl (am))), (g, .inr (0, [.int f0])), (b, .inr (2, [.ref b1, .ref b2, .int (nI (sn ((sT s, sR s, 0, 0)))), .int (sh ((sT s, sR s, 0, 0)))])), (b1, .inl (cI, 10, .inl (sT ((sT s, sR s, 0, 0))))), (b2, .inl (cI, 10, .inl (sR ((sT s, sR s, 0, 0))))), (h, .inr (1, [.ref a1, .ref a2, .ref a3, .ref a4, .int (nI (dz ((gv am an 0 d)))), .int (nI (dl ((gv am an 0 d)))), .int (nI (dO ((gv am an 0 d))))])), (a1, .inl (cI, 1575, .inl (dC ((gv am an 0 d))))), (a2, .inl (cI, 1575, .inl (dF ((gv am an 0 d))))), (a3, .inl (cI, 1575, .inl (dT ((gv am an 0 d))))), (a4, .inl (cI, 3060, .inl (dK ((gv am an 0 d)))))]) (b := q) (As := []) (rest := []) ⟨hx, hb, hml, hown, hts⟩ [0] (k_C_openQuestion l D cI q qa g b b1 b2 h a1 a2 a3 a4 am an vn kn tm tn hm mo f0 s d han hs hd) (cwV 0 hts v_C_76 rfl rfl rfl (by decide +kernel) ⟨Nat.le_of_ble_eq_true rfl, Nat.le_of_ble_eq_true rfl⟩) ⟨rfl, rfl, rfl, rfl, by decide⟩ rfl hK hP hD hS hA (va_recv (ci := 3) hK hP rfl (q0 := 0) rfl) rfl hl.1 (Nat.le_of_ble_eq_true rfl) d_C_solve_1 ⟨Nat.le_of_ble_eq_true rfl, Nat.le_of_ble_eq_true rfl⟩ (fun H locs hP hD hS => ?_)
  have hP : va_P D cls_ [(q, .inr (3, [.ref h, .ref b, .ref g, .ref qa, .int (nI 0), .int (nI vn), .int (nI kn), .int tm, .int (nI tn), .int 0, .int 0])), (qa, .inl (cI, 10, .inl (am))), (g, .inr (0, [.int f0])), (b, .inr (2, [.ref b1, .ref b2, .int (nI (sn ((sT s, sR s, 0, 0)))), .int (sh ((sT s, sR s, 0, 0)))])), (b1, .inl (cI, 10, .inl (sT ((sT s, sR s, 0, 0))))), (b2, .inl (cI, 10, .inl (sR ((sT s, sR s, 0, 0))))), (h, .inr (1, [.ref a1, .ref a2, .ref a3, .ref a4, .int (nI (dz ((gv am an 0 d)))), .int (nI (dl ((gv am an 0 d)))), .int (nI (dO ((gv am an 0 d))))])), (a1, .inl (cI, 1575, .inl (dC ((gv am an 0 d))))), (a2, .inl (cI, 1575, .inl (dF ((gv am an 0 d))))), (a3, .inl (cI, 1575, .inl (dT ((gv am an 0 d))))), (a4, .inl (cI, 3060, .inl (dK ((gv am an 0 d)))))] H := hP
  have hD : va_D A [(q, .inr (3, [.ref h, .ref b, .ref g, .ref qa, .int (nI 0), .int (nI vn), .int (nI kn), .int tm, .int (nI tn), .int 0, .int 0])), (qa, .inl (cI, 10, .inl (am))), (g, .inr (0, [.int f0])), (b, .inr (2, [.ref b1, .ref b2, .int (nI (sn ((sT s, sR s, 0, 0)))), .int (sh ((sT s, sR s, 0, 0)))])), (b1, .inl (cI, 10, .inl (sT ((sT s, sR s, 0, 0))))), (b2, .inl (cI, 10, .inl (sR ((sT s, sR s, 0, 0))))), (h, .inr (1, [.ref a1, .ref a2, .ref a3, .ref a4, .int (nI (dz ((gv am an 0 d)))), .int (nI (dl ((gv am an 0 d)))), .int (nI (dO ((gv am an 0 d))))])), (a1, .inl (cI, 1575, .inl (dC ((gv am an 0 d))))), (a2, .inl (cI, 1575, .inl (dF ((gv am an 0 d))))), (a3, .inl (cI, 1575, .inl (dT ((gv am an 0 d))))), (a4, .inl (cI, 3060, .inl (dK ((gv am an 0 d)))))] := hD
  refine lv_aload_n hx hb d_C_solve_4 rfl (lv_at hl 0 rfl) ?_
  refine lv_aload_n hx hb d_C_solve_5 rfl (lv_at hl 0 rfl) ?_
  refine CTi_V (isC := [0, 1, 2, 3, 4, 5, 6, 7, 8, 9, 10]) (isR := []) (wr := []) (wi := [(q, .inr (3, [.ref h, .ref b, .ref g, .ref qa, .int (nI 0), .int (nI vn), .int (nI kn), .int tm, .int (nI tn), .int 0, .int 0])), (qa, .inl (cI, 10, .inl (am))), (g, .inr (0, [.int f0])), (b, .inr (2, [.ref b1, .ref b2, .int (nI (sn ((sT s, sR s, 0, 0)))), .int (sh ((sT s, sR s, 0, 0)))])), (b1, .inl (cI, 10, .inl (sT ((sT s, sR s, 0, 0))))), (b2, .inl (cI, 10, .inl (sR ((sT s, sR s, 0, 0))))), (h, .inr (1, [.ref a1, .ref a2, .ref a3, .ref a4, .int (nI (dz ((gv am an 0 d)))), .int (nI (dl ((gv am an 0 d)))), .int (nI (dO ((gv am an 0 d))))])), (a1, .inl (cI, 1575, .inl (dC ((gv am an 0 d))))), (a2, .inl (cI, 1575, .inl (dF ((gv am an 0 d))))), (a3, .inl (cI, 1575, .inl (dT ((gv am an 0 d))))), (a4, .inl (cI, 3060, .inl (dK ((gv am an 0 d)))))]) (wo := [(q, .inr (3, [.ref h, .ref b, .ref g, .ref qa, .int (nI 0), .int (nI vn), .int (nI kn), .int tm, .int (nI tn), .int 0, .int 0])), (qa, .inl (cI, 10, .inl (am))), (g, .inr (0, [.int f0])), (b, .inr (2, [.ref b1, .ref b2, .int (nI (sn ((sr_find vn 100000 (gv am an 0 d) (sT s, sR s, 0, 0)).2.2))), .int (sh ((sr_find vn 100000 (gv am an 0 d) (sT s, sR s, 0, 0)).2.2))])), (b1, .inl (cI, 10, .inl (sT ((sr_find vn 100000 (gv am an 0 d) (sT s, sR s, 0, 0)).2.2)))), (b2, .inl (cI, 10, .inl (sR ((sr_find vn 100000 (gv am an 0 d) (sT s, sR s, 0, 0)).2.2)))), (h, .inr (1, [.ref a1, .ref a2, .ref a3, .ref a4, .int (nI (dz ((sr_find vn 100000 (gv am an 0 d) (sT s, sR s, 0, 0)).2.1))), .int (nI (dl ((sr_find vn 100000 (gv am an 0 d) (sT s, sR s, 0, 0)).2.1))), .int (nI (dO ((sr_find vn 100000 (gv am an 0 d) (sT s, sR s, 0, 0)).2.1)))])), (a1, .inl (cI, 1575, .inl (dC ((sr_find vn 100000 (gv am an 0 d) (sT s, sR s, 0, 0)).2.1)))), (a2, .inl (cI, 1575, .inl (dF ((sr_find vn 100000 (gv am an 0 d) (sT s, sR s, 0, 0)).2.1)))), (a3, .inl (cI, 1575, .inl (dT ((sr_find vn 100000 (gv am an 0 d) (sT s, sR s, 0, 0)).2.1)))), (a4, .inl (cI, 3060, .inl (dK ((sr_find vn 100000 (gv am an 0 d) (sT s, sR s, 0, 0)).2.1))))]) (b := q) (As := []) (rest := [.ref q]) ⟨hx, hb, hml, hown, hts⟩ [0] (k_C_nextModel l D cI q qa g b b1 b2 h a1 a2 a3 a4 am 0 vn kn tm tn 0 0 f0 (sT s, sR s, 0, 0) (gv am an 0 d) hvn t 0 g0 hg0 hFI) (cwV 0 hts v_C_79 rfl rfl rfl (by decide +kernel) ⟨Nat.le_of_ble_eq_true rfl, Nat.le_of_ble_eq_true rfl⟩) ⟨rfl, rfl, rfl, rfl, by decide⟩ rfl hK hP hD hS hA (va_recv (ci := 3) hK hP rfl (q0 := 0) rfl) rfl hl.1 (Nat.le_of_ble_eq_true rfl) d_C_solve_6 ⟨Nat.le_of_ble_eq_true rfl, Nat.le_of_ble_eq_true rfl⟩ (fun H locs hP hD hS => ?_)
  have hP : va_P D cls_ [(q, .inr (3, [.ref h, .ref b, .ref g, .ref qa, .int (nI 0), .int (nI vn), .int (nI kn), .int tm, .int (nI tn), .int 0, .int 0])), (qa, .inl (cI, 10, .inl (am))), (g, .inr (0, [.int f0])), (b, .inr (2, [.ref b1, .ref b2, .int (nI (sn ((sr_find vn 100000 (gv am an 0 d) (sT s, sR s, 0, 0)).2.2))), .int (sh ((sr_find vn 100000 (gv am an 0 d) (sT s, sR s, 0, 0)).2.2))])), (b1, .inl (cI, 10, .inl (sT ((sr_find vn 100000 (gv am an 0 d) (sT s, sR s, 0, 0)).2.2)))), (b2, .inl (cI, 10, .inl (sR ((sr_find vn 100000 (gv am an 0 d) (sT s, sR s, 0, 0)).2.2)))), (h, .inr (1, [.ref a1, .ref a2, .ref a3, .ref a4, .int (nI (dz ((sr_find vn 100000 (gv am an 0 d) (sT s, sR s, 0, 0)).2.1))), .int (nI (dl ((sr_find vn 100000 (gv am an 0 d) (sT s, sR s, 0, 0)).2.1))), .int (nI (dO ((sr_find vn 100000 (gv am an 0 d) (sT s, sR s, 0, 0)).2.1)))])), (a1, .inl (cI, 1575, .inl (dC ((sr_find vn 100000 (gv am an 0 d) (sT s, sR s, 0, 0)).2.1)))), (a2, .inl (cI, 1575, .inl (dF ((sr_find vn 100000 (gv am an 0 d) (sT s, sR s, 0, 0)).2.1)))), (a3, .inl (cI, 1575, .inl (dT ((sr_find vn 100000 (gv am an 0 d) (sT s, sR s, 0, 0)).2.1)))), (a4, .inl (cI, 3060, .inl (dK ((sr_find vn 100000 (gv am an 0 d) (sT s, sR s, 0, 0)).2.1))))] H := hP
  have hD : va_D A [(q, .inr (3, [.ref h, .ref b, .ref g, .ref qa, .int (nI 0), .int (nI vn), .int (nI kn), .int tm, .int (nI tn), .int 0, .int 0])), (qa, .inl (cI, 10, .inl (am))), (g, .inr (0, [.int f0])), (b, .inr (2, [.ref b1, .ref b2, .int (nI (sn ((sr_find vn 100000 (gv am an 0 d) (sT s, sR s, 0, 0)).2.2))), .int (sh ((sr_find vn 100000 (gv am an 0 d) (sT s, sR s, 0, 0)).2.2))])), (b1, .inl (cI, 10, .inl (sT ((sr_find vn 100000 (gv am an 0 d) (sT s, sR s, 0, 0)).2.2)))), (b2, .inl (cI, 10, .inl (sR ((sr_find vn 100000 (gv am an 0 d) (sT s, sR s, 0, 0)).2.2)))), (h, .inr (1, [.ref a1, .ref a2, .ref a3, .ref a4, .int (nI (dz ((sr_find vn 100000 (gv am an 0 d) (sT s, sR s, 0, 0)).2.1))), .int (nI (dl ((sr_find vn 100000 (gv am an 0 d) (sT s, sR s, 0, 0)).2.1))), .int (nI (dO ((sr_find vn 100000 (gv am an 0 d) (sT s, sR s, 0, 0)).2.1)))])), (a1, .inl (cI, 1575, .inl (dC ((sr_find vn 100000 (gv am an 0 d) (sT s, sR s, 0, 0)).2.1)))), (a2, .inl (cI, 1575, .inl (dF ((sr_find vn 100000 (gv am an 0 d) (sT s, sR s, 0, 0)).2.1)))), (a3, .inl (cI, 1575, .inl (dT ((sr_find vn 100000 (gv am an 0 d) (sT s, sR s, 0, 0)).2.1)))), (a4, .inl (cI, 3060, .inl (dK ((sr_find vn 100000 (gv am an 0 d) (sT s, sR s, 0, 0)).2.1))))] := hD
  refine va_put (D := D) (ci := 3) (v := .int (if (sr_find vn 100000 (gv am an 0 d) (sT s, sR s, 0, 0)).1 = true then 1 else 0)) (ty := .boolean) (C := R_C) (T := T_C) (N := 11) hx hb hts u_C t_C t_C_ok n_C hown hK hP hD hS 0 rfl rfl 9 (by decide) (hts _ f_C_83) (fun _ h9 => h9) rfl (by decide +kernel) (nar_if _) (fit_if _) (Nat.le_of_ble_eq_true rfl) d_C_solve_9 (fun H locs hP hD hS => ?_)
  have hP : va_P D cls_ [(q, .inr (3, [.ref h, .ref b, .ref g, .ref qa, .int (nI 0), .int (nI vn), .int (nI kn), .int tm, .int (nI tn), .int (if (sr_find vn 100000 (gv am an 0 d) (sT s, sR s, 0, 0)).1 = true then 1 else 0), .int 0])), (qa, .inl (cI, 10, .inl (am))), (g, .inr (0, [.int f0])), (b, .inr (2, [.ref b1, .ref b2, .int (nI (sn ((sr_find vn 100000 (gv am an 0 d) (sT s, sR s, 0, 0)).2.2))), .int (sh ((sr_find vn 100000 (gv am an 0 d) (sT s, sR s, 0, 0)).2.2))])), (b1, .inl (cI, 10, .inl (sT ((sr_find vn 100000 (gv am an 0 d) (sT s, sR s, 0, 0)).2.2)))), (b2, .inl (cI, 10, .inl (sR ((sr_find vn 100000 (gv am an 0 d) (sT s, sR s, 0, 0)).2.2)))), (h, .inr (1, [.ref a1, .ref a2, .ref a3, .ref a4, .int (nI (dz ((sr_find vn 100000 (gv am an 0 d) (sT s, sR s, 0, 0)).2.1))), .int (nI (dl ((sr_find vn 100000 (gv am an 0 d) (sT s, sR s, 0, 0)).2.1))), .int (nI (dO ((sr_find vn 100000 (gv am an 0 d) (sT s, sR s, 0, 0)).2.1)))])), (a1, .inl (cI, 1575, .inl (dC ((sr_find vn 100000 (gv am an 0 d) (sT s, sR s, 0, 0)).2.1)))), (a2, .inl (cI, 1575, .inl (dF ((sr_find vn 100000 (gv am an 0 d) (sT s, sR s, 0, 0)).2.1)))), (a3, .inl (cI, 1575, .inl (dT ((sr_find vn 100000 (gv am an 0 d) (sT s, sR s, 0, 0)).2.1)))), (a4, .inl (cI, 3060, .inl (dK ((sr_find vn 100000 (gv am an 0 d) (sT s, sR s, 0, 0)).2.1))))] H := hP
  have hD : va_D A [(q, .inr (3, [.ref h, .ref b, .ref g, .ref qa, .int (nI 0), .int (nI vn), .int (nI kn), .int tm, .int (nI tn), .int (if (sr_find vn 100000 (gv am an 0 d) (sT s, sR s, 0, 0)).1 = true then 1 else 0), .int 0])), (qa, .inl (cI, 10, .inl (am))), (g, .inr (0, [.int f0])), (b, .inr (2, [.ref b1, .ref b2, .int (nI (sn ((sr_find vn 100000 (gv am an 0 d) (sT s, sR s, 0, 0)).2.2))), .int (sh ((sr_find vn 100000 (gv am an 0 d) (sT s, sR s, 0, 0)).2.2))])), (b1, .inl (cI, 10, .inl (sT ((sr_find vn 100000 (gv am an 0 d) (sT s, sR s, 0, 0)).2.2)))), (b2, .inl (cI, 10, .inl (sR ((sr_find vn 100000 (gv am an 0 d) (sT s, sR s, 0, 0)).2.2)))), (h, .inr (1, [.ref a1, .ref a2, .ref a3, .ref a4, .int (nI (dz ((sr_find vn 100000 (gv am an 0 d) (sT s, sR s, 0, 0)).2.1))), .int (nI (dl ((sr_find vn 100000 (gv am an 0 d) (sT s, sR s, 0, 0)).2.1))), .int (nI (dO ((sr_find vn 100000 (gv am an 0 d) (sT s, sR s, 0, 0)).2.1)))])), (a1, .inl (cI, 1575, .inl (dC ((sr_find vn 100000 (gv am an 0 d) (sT s, sR s, 0, 0)).2.1)))), (a2, .inl (cI, 1575, .inl (dF ((sr_find vn 100000 (gv am an 0 d) (sT s, sR s, 0, 0)).2.1)))), (a3, .inl (cI, 1575, .inl (dT ((sr_find vn 100000 (gv am an 0 d) (sT s, sR s, 0, 0)).2.1)))), (a4, .inl (cI, 3060, .inl (dK ((sr_find vn 100000 (gv am an 0 d) (sT s, sR s, 0, 0)).2.1))))] := hD
  refine lv_aload_n hx hb d_C_solve_12 rfl (lv_at hl 0 rfl) ?_
  refine lv_aload_n hx hb d_C_solve_13 rfl (lv_at hl 0 rfl) ?_
  refine va_get (D := D) (ci := 3) (v := .int (if (sr_find vn 100000 (gv am an 0 d) (sT s, sR s, 0, 0)).1 = true then 1 else 0)) (C := R_C) (T := T_C) (N := 11) hx hb hts u_C hown hK hP 0 rfl rfl 9 (by decide) (hts _ f_C_83) (fun _ h9 => h9) rfl d_C_solve_14 ?_
  refine lv_if_eq (tgt := 30) hx hb d_C_solve_17 rfl (fun hc17 => ?_) (fun hc17 => ?_)
  · refine lv_iconst (v := 0) hx hb d_C_solve_30 (by decide) ?_
    refine lv_topi (fun mo2 e2 => ?_)
    have e2 : mo2 = (if (sr_find vn 100000 (gv am an 0 d) (sT s, sR s, 0, 0)).1 = true then sh (sr_find vn 100000 (gv am an 0 d) (sT s, sR s, 0, 0)).2.2 else 0) := e2.trans (if_neg (it0 hc17)).symm
    subst e2
    refine va_put (D := D) (ci := 3) (v := .int (if (sr_find vn 100000 (gv am an 0 d) (sT s, sR s, 0, 0)).1 = true then sh (sr_find vn 100000 (gv am an 0 d) (sT s, sR s, 0, 0)).2.2 else 0)) (ty := .int) (C := R_C) (T := T_C) (N := 11) hx hb hts u_C t_C t_C_ok n_C hown hK hP hD hS 0 rfl rfl 10 (by decide) (hts _ f_C_91) (fun _ h9 => h9) rfl (by decide +kernel) rfl rfl (Nat.le_of_ble_eq_true rfl) d_C_solve_31 (fun H locs hP hD hS => ?_)
    have hP : va_P D cls_ [(q, .inr (3, [.ref h, .ref b, .ref g, .ref qa, .int (nI 0), .int (nI vn), .int (nI kn), .int tm, .int (nI tn), .int (if (sr_find vn 100000 (gv am an 0 d) (sT s, sR s, 0, 0)).1 = true then 1 else 0), .int (if (sr_find vn 100000 (gv am an 0 d) (sT s, sR s, 0, 0)).1 = true then sh (sr_find vn 100000 (gv am an 0 d) (sT s, sR s, 0, 0)).2.2 else 0)])), (qa, .inl (cI, 10, .inl (am))), (g, .inr (0, [.int f0])), (b, .inr (2, [.ref b1, .ref b2, .int (nI (sn ((sr_find vn 100000 (gv am an 0 d) (sT s, sR s, 0, 0)).2.2))), .int (sh ((sr_find vn 100000 (gv am an 0 d) (sT s, sR s, 0, 0)).2.2))])), (b1, .inl (cI, 10, .inl (sT ((sr_find vn 100000 (gv am an 0 d) (sT s, sR s, 0, 0)).2.2)))), (b2, .inl (cI, 10, .inl (sR ((sr_find vn 100000 (gv am an 0 d) (sT s, sR s, 0, 0)).2.2)))), (h, .inr (1, [.ref a1, .ref a2, .ref a3, .ref a4, .int (nI (dz ((sr_find vn 100000 (gv am an 0 d) (sT s, sR s, 0, 0)).2.1))), .int (nI (dl ((sr_find vn 100000 (gv am an 0 d) (sT s, sR s, 0, 0)).2.1))), .int (nI (dO ((sr_find vn 100000 (gv am an 0 d) (sT s, sR s, 0, 0)).2.1)))])), (a1, .inl (cI, 1575, .inl (dC ((sr_find vn 100000 (gv am an 0 d) (sT s, sR s, 0, 0)).2.1)))), (a2, .inl (cI, 1575, .inl (dF ((sr_find vn 100000 (gv am an 0 d) (sT s, sR s, 0, 0)).2.1)))), (a3, .inl (cI, 1575, .inl (dT ((sr_find vn 100000 (gv am an 0 d) (sT s, sR s, 0, 0)).2.1)))), (a4, .inl (cI, 3060, .inl (dK ((sr_find vn 100000 (gv am an 0 d) (sT s, sR s, 0, 0)).2.1))))] H := hP
    have hD : va_D A [(q, .inr (3, [.ref h, .ref b, .ref g, .ref qa, .int (nI 0), .int (nI vn), .int (nI kn), .int tm, .int (nI tn), .int (if (sr_find vn 100000 (gv am an 0 d) (sT s, sR s, 0, 0)).1 = true then 1 else 0), .int (if (sr_find vn 100000 (gv am an 0 d) (sT s, sR s, 0, 0)).1 = true then sh (sr_find vn 100000 (gv am an 0 d) (sT s, sR s, 0, 0)).2.2 else 0)])), (qa, .inl (cI, 10, .inl (am))), (g, .inr (0, [.int f0])), (b, .inr (2, [.ref b1, .ref b2, .int (nI (sn ((sr_find vn 100000 (gv am an 0 d) (sT s, sR s, 0, 0)).2.2))), .int (sh ((sr_find vn 100000 (gv am an 0 d) (sT s, sR s, 0, 0)).2.2))])), (b1, .inl (cI, 10, .inl (sT ((sr_find vn 100000 (gv am an 0 d) (sT s, sR s, 0, 0)).2.2)))), (b2, .inl (cI, 10, .inl (sR ((sr_find vn 100000 (gv am an 0 d) (sT s, sR s, 0, 0)).2.2)))), (h, .inr (1, [.ref a1, .ref a2, .ref a3, .ref a4, .int (nI (dz ((sr_find vn 100000 (gv am an 0 d) (sT s, sR s, 0, 0)).2.1))), .int (nI (dl ((sr_find vn 100000 (gv am an 0 d) (sT s, sR s, 0, 0)).2.1))), .int (nI (dO ((sr_find vn 100000 (gv am an 0 d) (sT s, sR s, 0, 0)).2.1)))])), (a1, .inl (cI, 1575, .inl (dC ((sr_find vn 100000 (gv am an 0 d) (sT s, sR s, 0, 0)).2.1)))), (a2, .inl (cI, 1575, .inl (dF ((sr_find vn 100000 (gv am an 0 d) (sT s, sR s, 0, 0)).2.1)))), (a3, .inl (cI, 1575, .inl (dT ((sr_find vn 100000 (gv am an 0 d) (sT s, sR s, 0, 0)).2.1)))), (a4, .inl (cI, 3060, .inl (dK ((sr_find vn 100000 (gv am an 0 d) (sT s, sR s, 0, 0)).2.1))))] := hD
    refine lv_aload_n hx hb d_C_solve_34 rfl (lv_at hl 0 rfl) ?_
    refine CTv_V (isC := [0, 1, 2, 3, 4, 5, 6, 7, 8, 9, 10]) (isR := []) (wr := []) (wi := [(q, .inr (3, [.ref h, .ref b, .ref g, .ref qa, .int (nI 0), .int (nI vn), .int (nI kn), .int tm, .int (nI tn), .int (if (sr_find vn 100000 (gv am an 0 d) (sT s, sR s, 0, 0)).1 = true then 1 else 0), .int (if (sr_find vn 100000 (gv am an 0 d) (sT s, sR s, 0, 0)).1 = true then sh (sr_find vn 100000 (gv am an 0 d) (sT s, sR s, 0, 0)).2.2 else 0)])), (qa, .inl (cI, 10, .inl (am))), (g, .inr (0, [.int f0])), (b, .inr (2, [.ref b1, .ref b2, .int (nI (sn ((sr_find vn 100000 (gv am an 0 d) (sT s, sR s, 0, 0)).2.2))), .int (sh ((sr_find vn 100000 (gv am an 0 d) (sT s, sR s, 0, 0)).2.2))])), (b1, .inl (cI, 10, .inl (sT ((sr_find vn 100000 (gv am an 0 d) (sT s, sR s, 0, 0)).2.2)))), (b2, .inl (cI, 10, .inl (sR ((sr_find vn 100000 (gv am an 0 d) (sT s, sR s, 0, 0)).2.2)))), (h, .inr (1, [.ref a1, .ref a2, .ref a3, .ref a4, .int (nI (dz ((sr_find vn 100000 (gv am an 0 d) (sT s, sR s, 0, 0)).2.1))), .int (nI (dl ((sr_find vn 100000 (gv am an 0 d) (sT s, sR s, 0, 0)).2.1))), .int (nI (dO ((sr_find vn 100000 (gv am an 0 d) (sT s, sR s, 0, 0)).2.1)))])), (a1, .inl (cI, 1575, .inl (dC ((sr_find vn 100000 (gv am an 0 d) (sT s, sR s, 0, 0)).2.1)))), (a2, .inl (cI, 1575, .inl (dF ((sr_find vn 100000 (gv am an 0 d) (sT s, sR s, 0, 0)).2.1)))), (a3, .inl (cI, 1575, .inl (dT ((sr_find vn 100000 (gv am an 0 d) (sT s, sR s, 0, 0)).2.1)))), (a4, .inl (cI, 3060, .inl (dK ((sr_find vn 100000 (gv am an 0 d) (sT s, sR s, 0, 0)).2.1))))]) (wo := [(q, .inr (3, [.ref h, .ref b, .ref g, .ref qa, .int (nI 0), .int (nI vn), .int (nI kn), .int tm, .int (nI tn), .int ((if (sr_find vn 100000 (gv am an 0 d) (sT s, sR s, 0, 0)).1 = true then 1 else 0)), .int ((if (sr_find vn 100000 (gv am an 0 d) (sT s, sR s, 0, 0)).1 = true then sh (sr_find vn 100000 (gv am an 0 d) (sT s, sR s, 0, 0)).2.2 else 0))])), (qa, .inl (cI, 10, .inl (am))), (g, .inr (0, [.int f0])), (b, .inr (2, [.ref b1, .ref b2, .int (nI (sn ((sr_find vn 100000 (gv am an 0 d) (sT s, sR s, 0, 0)).2.2))), .int (sh ((sr_find vn 100000 (gv am an 0 d) (sT s, sR s, 0, 0)).2.2))])), (b1, .inl (cI, 10, .inl (sT ((sr_find vn 100000 (gv am an 0 d) (sT s, sR s, 0, 0)).2.2)))), (b2, .inl (cI, 10, .inl (sR ((sr_find vn 100000 (gv am an 0 d) (sT s, sR s, 0, 0)).2.2)))), (h, .inr (1, [.ref a1, .ref a2, .ref a3, .ref a4, .int (nI (dz ((dk_keep (sr_find vn 100000 (gv am an 0 d) (sT s, sR s, 0, 0)).2.1 kn)))), .int (nI (dl ((dk_keep (sr_find vn 100000 (gv am an 0 d) (sT s, sR s, 0, 0)).2.1 kn)))), .int (nI (dO ((dk_keep (sr_find vn 100000 (gv am an 0 d) (sT s, sR s, 0, 0)).2.1 kn))))])), (a1, .inl (cI, 1575, .inl (dC ((dk_keep (sr_find vn 100000 (gv am an 0 d) (sT s, sR s, 0, 0)).2.1 kn))))), (a2, .inl (cI, 1575, .inl (dF ((dk_keep (sr_find vn 100000 (gv am an 0 d) (sT s, sR s, 0, 0)).2.1 kn))))), (a3, .inl (cI, 1575, .inl (dT ((dk_keep (sr_find vn 100000 (gv am an 0 d) (sT s, sR s, 0, 0)).2.1 kn))))), (a4, .inl (cI, 3060, .inl (dK ((dk_keep (sr_find vn 100000 (gv am an 0 d) (sT s, sR s, 0, 0)).2.1 kn)))))]) (b := q) (As := []) (rest := []) ⟨hx, hb, hml, hown, hts⟩ [0] (k_C_endQuestion l D cI q qa g b b1 b2 h a1 a2 a3 a4 am 0 vn kn tm tn (if (sr_find vn 100000 (gv am an 0 d) (sT s, sR s, 0, 0)).1 = true then 1 else 0) (if (sr_find vn 100000 (gv am an 0 d) (sT s, sR s, 0, 0)).1 = true then sh (sr_find vn 100000 (gv am an 0 d) (sT s, sR s, 0, 0)).2.2 else 0) f0 (sr_find vn 100000 (gv am an 0 d) (sT s, sR s, 0, 0)).2.2 (sr_find vn 100000 (gv am an 0 d) (sT s, sR s, 0, 0)).2.1 hd2 hkn) (cwV 0 hts v_C_94 rfl rfl rfl (by decide +kernel) ⟨Nat.le_of_ble_eq_true rfl, Nat.le_of_ble_eq_true rfl⟩) ⟨rfl, rfl, rfl, rfl, by decide⟩ rfl hK hP hD hS hA (va_recv (ci := 3) hK hP rfl (q0 := 0) rfl) rfl hl.1 (Nat.le_of_ble_eq_true rfl) d_C_solve_35 ⟨Nat.le_of_ble_eq_true rfl, Nat.le_of_ble_eq_true rfl⟩ (fun H locs hP hD hS => ?_)
    have hP : va_P D cls_ [(q, .inr (3, [.ref h, .ref b, .ref g, .ref qa, .int (nI 0), .int (nI vn), .int (nI kn), .int tm, .int (nI tn), .int ((if (sr_find vn 100000 (gv am an 0 d) (sT s, sR s, 0, 0)).1 = true then 1 else 0)), .int ((if (sr_find vn 100000 (gv am an 0 d) (sT s, sR s, 0, 0)).1 = true then sh (sr_find vn 100000 (gv am an 0 d) (sT s, sR s, 0, 0)).2.2 else 0))])), (qa, .inl (cI, 10, .inl (am))), (g, .inr (0, [.int f0])), (b, .inr (2, [.ref b1, .ref b2, .int (nI (sn ((sr_find vn 100000 (gv am an 0 d) (sT s, sR s, 0, 0)).2.2))), .int (sh ((sr_find vn 100000 (gv am an 0 d) (sT s, sR s, 0, 0)).2.2))])), (b1, .inl (cI, 10, .inl (sT ((sr_find vn 100000 (gv am an 0 d) (sT s, sR s, 0, 0)).2.2)))), (b2, .inl (cI, 10, .inl (sR ((sr_find vn 100000 (gv am an 0 d) (sT s, sR s, 0, 0)).2.2)))), (h, .inr (1, [.ref a1, .ref a2, .ref a3, .ref a4, .int (nI (dz ((dk_keep (sr_find vn 100000 (gv am an 0 d) (sT s, sR s, 0, 0)).2.1 kn)))), .int (nI (dl ((dk_keep (sr_find vn 100000 (gv am an 0 d) (sT s, sR s, 0, 0)).2.1 kn)))), .int (nI (dO ((dk_keep (sr_find vn 100000 (gv am an 0 d) (sT s, sR s, 0, 0)).2.1 kn))))])), (a1, .inl (cI, 1575, .inl (dC ((dk_keep (sr_find vn 100000 (gv am an 0 d) (sT s, sR s, 0, 0)).2.1 kn))))), (a2, .inl (cI, 1575, .inl (dF ((dk_keep (sr_find vn 100000 (gv am an 0 d) (sT s, sR s, 0, 0)).2.1 kn))))), (a3, .inl (cI, 1575, .inl (dT ((dk_keep (sr_find vn 100000 (gv am an 0 d) (sT s, sR s, 0, 0)).2.1 kn))))), (a4, .inl (cI, 3060, .inl (dK ((dk_keep (sr_find vn 100000 (gv am an 0 d) (sT s, sR s, 0, 0)).2.1 kn)))))] H := hP
    have hD : va_D A [(q, .inr (3, [.ref h, .ref b, .ref g, .ref qa, .int (nI 0), .int (nI vn), .int (nI kn), .int tm, .int (nI tn), .int ((if (sr_find vn 100000 (gv am an 0 d) (sT s, sR s, 0, 0)).1 = true then 1 else 0)), .int ((if (sr_find vn 100000 (gv am an 0 d) (sT s, sR s, 0, 0)).1 = true then sh (sr_find vn 100000 (gv am an 0 d) (sT s, sR s, 0, 0)).2.2 else 0))])), (qa, .inl (cI, 10, .inl (am))), (g, .inr (0, [.int f0])), (b, .inr (2, [.ref b1, .ref b2, .int (nI (sn ((sr_find vn 100000 (gv am an 0 d) (sT s, sR s, 0, 0)).2.2))), .int (sh ((sr_find vn 100000 (gv am an 0 d) (sT s, sR s, 0, 0)).2.2))])), (b1, .inl (cI, 10, .inl (sT ((sr_find vn 100000 (gv am an 0 d) (sT s, sR s, 0, 0)).2.2)))), (b2, .inl (cI, 10, .inl (sR ((sr_find vn 100000 (gv am an 0 d) (sT s, sR s, 0, 0)).2.2)))), (h, .inr (1, [.ref a1, .ref a2, .ref a3, .ref a4, .int (nI (dz ((dk_keep (sr_find vn 100000 (gv am an 0 d) (sT s, sR s, 0, 0)).2.1 kn)))), .int (nI (dl ((dk_keep (sr_find vn 100000 (gv am an 0 d) (sT s, sR s, 0, 0)).2.1 kn)))), .int (nI (dO ((dk_keep (sr_find vn 100000 (gv am an 0 d) (sT s, sR s, 0, 0)).2.1 kn))))])), (a1, .inl (cI, 1575, .inl (dC ((dk_keep (sr_find vn 100000 (gv am an 0 d) (sT s, sR s, 0, 0)).2.1 kn))))), (a2, .inl (cI, 1575, .inl (dF ((dk_keep (sr_find vn 100000 (gv am an 0 d) (sT s, sR s, 0, 0)).2.1 kn))))), (a3, .inl (cI, 1575, .inl (dT ((dk_keep (sr_find vn 100000 (gv am an 0 d) (sT s, sR s, 0, 0)).2.1 kn))))), (a4, .inl (cI, 3060, .inl (dK ((dk_keep (sr_find vn 100000 (gv am an 0 d) (sT s, sR s, 0, 0)).2.1 kn)))))] := hD
    refine lv_aload_n hx hb d_C_solve_38 rfl (lv_at hl 0 rfl) ?_
    refine va_get (D := D) (ci := 3) (v := .int ((if (sr_find vn 100000 (gv am an 0 d) (sT s, sR s, 0, 0)).1 = true then 1 else 0))) (C := R_C) (T := T_C) (N := 11) hx hb hts u_C hown hK hP 0 rfl rfl 9 (by decide) (hts _ f_C_83) (fun _ h9 => h9) rfl d_C_solve_39 ?_
    exact fin _ _ _ _ _ hP hD hS (rfl) d_C_solve_42
  · refine lv_aload_n hx hb d_C_solve_20 rfl (lv_at hl 0 rfl) ?_
    refine va_get (D := D) (ci := 3) (v := .ref b) (C := R_C) (T := T_C) (N := 11) hx hb hts u_C hown hK hP 0 rfl rfl 1 (by decide) (hts _ f_C_19) (fun _ h9 => h9) rfl d_C_solve_21 ?_
    refine CTi_V (isC := [3, 4, 5]) (isR := [0, 1, 2, 6, 7, 8, 9, 10]) (wr := [(q, .inr (3, [.ref h, .ref b, .ref g, .ref qa, .int (nI 0), .int (nI vn), .int (nI kn), .int tm, .int (nI tn), .int (if (sr_find vn 100000 (gv am an 0 d) (sT s, sR s, 0, 0)).1 = true then 1 else 0), .int 0])), (qa, .inl (cI, 10, .inl (am))), (g, .inr (0, [.int f0])), (h, .inr (1, [.ref a1, .ref a2, .ref a3, .ref a4, .int (nI (dz ((sr_find vn 100000 (gv am an 0 d) (sT s, sR s, 0, 0)).2.1))), .int (nI (dl ((sr_find vn 100000 (gv am an 0 d) (sT s, sR s, 0, 0)).2.1))), .int (nI (dO ((sr_find vn 100000 (gv am an 0 d) (sT s, sR s, 0, 0)).2.1)))])), (a1, .inl (cI, 1575, .inl (dC ((sr_find vn 100000 (gv am an 0 d) (sT s, sR s, 0, 0)).2.1)))), (a2, .inl (cI, 1575, .inl (dF ((sr_find vn 100000 (gv am an 0 d) (sT s, sR s, 0, 0)).2.1)))), (a3, .inl (cI, 1575, .inl (dT ((sr_find vn 100000 (gv am an 0 d) (sT s, sR s, 0, 0)).2.1)))), (a4, .inl (cI, 3060, .inl (dK ((sr_find vn 100000 (gv am an 0 d) (sT s, sR s, 0, 0)).2.1))))]) (wi := [(b, .inr (2, [.ref b1, .ref b2, .int (nI (sn ((sr_find vn 100000 (gv am an 0 d) (sT s, sR s, 0, 0)).2.2))), .int (sh ((sr_find vn 100000 (gv am an 0 d) (sT s, sR s, 0, 0)).2.2))])), (b1, .inl (cI, 10, .inl (sT ((sr_find vn 100000 (gv am an 0 d) (sT s, sR s, 0, 0)).2.2)))), (b2, .inl (cI, 10, .inl (sR ((sr_find vn 100000 (gv am an 0 d) (sT s, sR s, 0, 0)).2.2))))]) (wo := [(b, .inr (2, [.ref b1, .ref b2, .int (nI (sn (sr_find vn 100000 (gv am an 0 d) (sT s, sR s, 0, 0)).2.2)), .int (sh (sr_find vn 100000 (gv am an 0 d) (sT s, sR s, 0, 0)).2.2)])), (b1, .inl (cI, 10, .inl (sT (sr_find vn 100000 (gv am an 0 d) (sT s, sR s, 0, 0)).2.2))), (b2, .inl (cI, 10, .inl (sR (sr_find vn 100000 (gv am an 0 d) (sT s, sR s, 0, 0)).2.2)))]) (b := b) (As := []) (rest := [.ref q]) ⟨hx, hb, hml, hown, hts⟩ [0] (k_S_held l D cI b b1 b2 (sr_find vn 100000 (gv am an 0 d) (sT s, sR s, 0, 0)).2.2 hs2) (cwV 0 hts v_C_87 rfl rfl rfl (by decide +kernel) ⟨Nat.le_of_ble_eq_true rfl, Nat.le_of_ble_eq_true rfl⟩) ⟨rfl, rfl, rfl, rfl, by decide⟩ rfl hK hP hD hS hA (va_recv (ci := 2) hK hP rfl (q0 := 3) rfl) rfl hl.1 (Nat.le_of_ble_eq_true rfl) d_C_solve_24 ⟨Nat.le_of_ble_eq_true rfl, Nat.le_of_ble_eq_true rfl⟩ (fun H locs hP hD hS => ?_)
    have hP : va_P D cls_ [(q, .inr (3, [.ref h, .ref b, .ref g, .ref qa, .int (nI 0), .int (nI vn), .int (nI kn), .int tm, .int (nI tn), .int (if (sr_find vn 100000 (gv am an 0 d) (sT s, sR s, 0, 0)).1 = true then 1 else 0), .int 0])), (qa, .inl (cI, 10, .inl (am))), (g, .inr (0, [.int f0])), (h, .inr (1, [.ref a1, .ref a2, .ref a3, .ref a4, .int (nI (dz ((sr_find vn 100000 (gv am an 0 d) (sT s, sR s, 0, 0)).2.1))), .int (nI (dl ((sr_find vn 100000 (gv am an 0 d) (sT s, sR s, 0, 0)).2.1))), .int (nI (dO ((sr_find vn 100000 (gv am an 0 d) (sT s, sR s, 0, 0)).2.1)))])), (a1, .inl (cI, 1575, .inl (dC ((sr_find vn 100000 (gv am an 0 d) (sT s, sR s, 0, 0)).2.1)))), (a2, .inl (cI, 1575, .inl (dF ((sr_find vn 100000 (gv am an 0 d) (sT s, sR s, 0, 0)).2.1)))), (a3, .inl (cI, 1575, .inl (dT ((sr_find vn 100000 (gv am an 0 d) (sT s, sR s, 0, 0)).2.1)))), (a4, .inl (cI, 3060, .inl (dK ((sr_find vn 100000 (gv am an 0 d) (sT s, sR s, 0, 0)).2.1)))), (b, .inr (2, [.ref b1, .ref b2, .int (nI (sn (sr_find vn 100000 (gv am an 0 d) (sT s, sR s, 0, 0)).2.2)), .int (sh (sr_find vn 100000 (gv am an 0 d) (sT s, sR s, 0, 0)).2.2)])), (b1, .inl (cI, 10, .inl (sT (sr_find vn 100000 (gv am an 0 d) (sT s, sR s, 0, 0)).2.2))), (b2, .inl (cI, 10, .inl (sR (sr_find vn 100000 (gv am an 0 d) (sT s, sR s, 0, 0)).2.2)))] H := hP
    have hD : va_D A [(q, .inr (3, [.ref h, .ref b, .ref g, .ref qa, .int (nI 0), .int (nI vn), .int (nI kn), .int tm, .int (nI tn), .int (if (sr_find vn 100000 (gv am an 0 d) (sT s, sR s, 0, 0)).1 = true then 1 else 0), .int 0])), (qa, .inl (cI, 10, .inl (am))), (g, .inr (0, [.int f0])), (h, .inr (1, [.ref a1, .ref a2, .ref a3, .ref a4, .int (nI (dz ((sr_find vn 100000 (gv am an 0 d) (sT s, sR s, 0, 0)).2.1))), .int (nI (dl ((sr_find vn 100000 (gv am an 0 d) (sT s, sR s, 0, 0)).2.1))), .int (nI (dO ((sr_find vn 100000 (gv am an 0 d) (sT s, sR s, 0, 0)).2.1)))])), (a1, .inl (cI, 1575, .inl (dC ((sr_find vn 100000 (gv am an 0 d) (sT s, sR s, 0, 0)).2.1)))), (a2, .inl (cI, 1575, .inl (dF ((sr_find vn 100000 (gv am an 0 d) (sT s, sR s, 0, 0)).2.1)))), (a3, .inl (cI, 1575, .inl (dT ((sr_find vn 100000 (gv am an 0 d) (sT s, sR s, 0, 0)).2.1)))), (a4, .inl (cI, 3060, .inl (dK ((sr_find vn 100000 (gv am an 0 d) (sT s, sR s, 0, 0)).2.1)))), (b, .inr (2, [.ref b1, .ref b2, .int (nI (sn (sr_find vn 100000 (gv am an 0 d) (sT s, sR s, 0, 0)).2.2)), .int (sh (sr_find vn 100000 (gv am an 0 d) (sT s, sR s, 0, 0)).2.2)])), (b1, .inl (cI, 10, .inl (sT (sr_find vn 100000 (gv am an 0 d) (sT s, sR s, 0, 0)).2.2))), (b2, .inl (cI, 10, .inl (sR (sr_find vn 100000 (gv am an 0 d) (sT s, sR s, 0, 0)).2.2)))] := hD
    refine lv_goto (tgt := 31) hx hb d_C_solve_27 rfl ?_
    refine lv_topi (fun mo2 e2 => ?_)
    have e2 : mo2 = (if (sr_find vn 100000 (gv am an 0 d) (sT s, sR s, 0, 0)).1 = true then sh (sr_find vn 100000 (gv am an 0 d) (sT s, sR s, 0, 0)).2.2 else 0) := e2.trans (if_pos (it1 hc17)).symm
    subst e2
    refine va_put (D := D) (ci := 3) (v := .int (if (sr_find vn 100000 (gv am an 0 d) (sT s, sR s, 0, 0)).1 = true then sh (sr_find vn 100000 (gv am an 0 d) (sT s, sR s, 0, 0)).2.2 else 0)) (ty := .int) (C := R_C) (T := T_C) (N := 11) hx hb hts u_C t_C t_C_ok n_C hown hK hP hD hS 0 rfl rfl 10 (by decide) (hts _ f_C_91) (fun _ h9 => h9) rfl (by decide +kernel) rfl rfl (Nat.le_of_ble_eq_true rfl) d_C_solve_31 (fun H locs hP hD hS => ?_)
    have hP : va_P D cls_ [(q, .inr (3, [.ref h, .ref b, .ref g, .ref qa, .int (nI 0), .int (nI vn), .int (nI kn), .int tm, .int (nI tn), .int (if (sr_find vn 100000 (gv am an 0 d) (sT s, sR s, 0, 0)).1 = true then 1 else 0), .int (if (sr_find vn 100000 (gv am an 0 d) (sT s, sR s, 0, 0)).1 = true then sh (sr_find vn 100000 (gv am an 0 d) (sT s, sR s, 0, 0)).2.2 else 0)])), (qa, .inl (cI, 10, .inl (am))), (g, .inr (0, [.int f0])), (h, .inr (1, [.ref a1, .ref a2, .ref a3, .ref a4, .int (nI (dz ((sr_find vn 100000 (gv am an 0 d) (sT s, sR s, 0, 0)).2.1))), .int (nI (dl ((sr_find vn 100000 (gv am an 0 d) (sT s, sR s, 0, 0)).2.1))), .int (nI (dO ((sr_find vn 100000 (gv am an 0 d) (sT s, sR s, 0, 0)).2.1)))])), (a1, .inl (cI, 1575, .inl (dC ((sr_find vn 100000 (gv am an 0 d) (sT s, sR s, 0, 0)).2.1)))), (a2, .inl (cI, 1575, .inl (dF ((sr_find vn 100000 (gv am an 0 d) (sT s, sR s, 0, 0)).2.1)))), (a3, .inl (cI, 1575, .inl (dT ((sr_find vn 100000 (gv am an 0 d) (sT s, sR s, 0, 0)).2.1)))), (a4, .inl (cI, 3060, .inl (dK ((sr_find vn 100000 (gv am an 0 d) (sT s, sR s, 0, 0)).2.1)))), (b, .inr (2, [.ref b1, .ref b2, .int (nI (sn (sr_find vn 100000 (gv am an 0 d) (sT s, sR s, 0, 0)).2.2)), .int (sh (sr_find vn 100000 (gv am an 0 d) (sT s, sR s, 0, 0)).2.2)])), (b1, .inl (cI, 10, .inl (sT (sr_find vn 100000 (gv am an 0 d) (sT s, sR s, 0, 0)).2.2))), (b2, .inl (cI, 10, .inl (sR (sr_find vn 100000 (gv am an 0 d) (sT s, sR s, 0, 0)).2.2)))] H := hP
    have hD : va_D A [(q, .inr (3, [.ref h, .ref b, .ref g, .ref qa, .int (nI 0), .int (nI vn), .int (nI kn), .int tm, .int (nI tn), .int (if (sr_find vn 100000 (gv am an 0 d) (sT s, sR s, 0, 0)).1 = true then 1 else 0), .int (if (sr_find vn 100000 (gv am an 0 d) (sT s, sR s, 0, 0)).1 = true then sh (sr_find vn 100000 (gv am an 0 d) (sT s, sR s, 0, 0)).2.2 else 0)])), (qa, .inl (cI, 10, .inl (am))), (g, .inr (0, [.int f0])), (h, .inr (1, [.ref a1, .ref a2, .ref a3, .ref a4, .int (nI (dz ((sr_find vn 100000 (gv am an 0 d) (sT s, sR s, 0, 0)).2.1))), .int (nI (dl ((sr_find vn 100000 (gv am an 0 d) (sT s, sR s, 0, 0)).2.1))), .int (nI (dO ((sr_find vn 100000 (gv am an 0 d) (sT s, sR s, 0, 0)).2.1)))])), (a1, .inl (cI, 1575, .inl (dC ((sr_find vn 100000 (gv am an 0 d) (sT s, sR s, 0, 0)).2.1)))), (a2, .inl (cI, 1575, .inl (dF ((sr_find vn 100000 (gv am an 0 d) (sT s, sR s, 0, 0)).2.1)))), (a3, .inl (cI, 1575, .inl (dT ((sr_find vn 100000 (gv am an 0 d) (sT s, sR s, 0, 0)).2.1)))), (a4, .inl (cI, 3060, .inl (dK ((sr_find vn 100000 (gv am an 0 d) (sT s, sR s, 0, 0)).2.1)))), (b, .inr (2, [.ref b1, .ref b2, .int (nI (sn (sr_find vn 100000 (gv am an 0 d) (sT s, sR s, 0, 0)).2.2)), .int (sh (sr_find vn 100000 (gv am an 0 d) (sT s, sR s, 0, 0)).2.2)])), (b1, .inl (cI, 10, .inl (sT (sr_find vn 100000 (gv am an 0 d) (sT s, sR s, 0, 0)).2.2))), (b2, .inl (cI, 10, .inl (sR (sr_find vn 100000 (gv am an 0 d) (sT s, sR s, 0, 0)).2.2)))] := hD
    refine lv_aload_n hx hb d_C_solve_34 rfl (lv_at hl 0 rfl) ?_
    have hP := hP.sub (ws' := [(q, .inr (3, [.ref h, .ref b, .ref g, .ref qa, .int (nI 0), .int (nI vn), .int (nI kn), .int tm, .int (nI tn), .int (if (sr_find vn 100000 (gv am an 0 d) (sT s, sR s, 0, 0)).1 = true then 1 else 0), .int (if (sr_find vn 100000 (gv am an 0 d) (sT s, sR s, 0, 0)).1 = true then sh (sr_find vn 100000 (gv am an 0 d) (sT s, sR s, 0, 0)).2.2 else 0)])), (qa, .inl (cI, 10, .inl (am))), (g, .inr (0, [.int f0])), (b, .inr (2, [.ref b1, .ref b2, .int (nI (sn (sr_find vn 100000 (gv am an 0 d) (sT s, sR s, 0, 0)).2.2)), .int (sh (sr_find vn 100000 (gv am an 0 d) (sT s, sR s, 0, 0)).2.2)])), (b1, .inl (cI, 10, .inl (sT (sr_find vn 100000 (gv am an 0 d) (sT s, sR s, 0, 0)).2.2))), (b2, .inl (cI, 10, .inl (sR (sr_find vn 100000 (gv am an 0 d) (sT s, sR s, 0, 0)).2.2))), (h, .inr (1, [.ref a1, .ref a2, .ref a3, .ref a4, .int (nI (dz ((sr_find vn 100000 (gv am an 0 d) (sT s, sR s, 0, 0)).2.1))), .int (nI (dl ((sr_find vn 100000 (gv am an 0 d) (sT s, sR s, 0, 0)).2.1))), .int (nI (dO ((sr_find vn 100000 (gv am an 0 d) (sT s, sR s, 0, 0)).2.1)))])), (a1, .inl (cI, 1575, .inl (dC ((sr_find vn 100000 (gv am an 0 d) (sT s, sR s, 0, 0)).2.1)))), (a2, .inl (cI, 1575, .inl (dF ((sr_find vn 100000 (gv am an 0 d) (sT s, sR s, 0, 0)).2.1)))), (a3, .inl (cI, 1575, .inl (dT ((sr_find vn 100000 (gv am an 0 d) (sT s, sR s, 0, 0)).2.1)))), (a4, .inl (cI, 3060, .inl (dK ((sr_find vn 100000 (gv am an 0 d) (sT s, sR s, 0, 0)).2.1))))]) [0, 1, 2, 8, 9, 10, 3, 4, 5, 6, 7] rfl
    have hD := hD.sub (ws' := [(q, .inr (3, [.ref h, .ref b, .ref g, .ref qa, .int (nI 0), .int (nI vn), .int (nI kn), .int tm, .int (nI tn), .int (if (sr_find vn 100000 (gv am an 0 d) (sT s, sR s, 0, 0)).1 = true then 1 else 0), .int (if (sr_find vn 100000 (gv am an 0 d) (sT s, sR s, 0, 0)).1 = true then sh (sr_find vn 100000 (gv am an 0 d) (sT s, sR s, 0, 0)).2.2 else 0)])), (qa, .inl (cI, 10, .inl (am))), (g, .inr (0, [.int f0])), (b, .inr (2, [.ref b1, .ref b2, .int (nI (sn (sr_find vn 100000 (gv am an 0 d) (sT s, sR s, 0, 0)).2.2)), .int (sh (sr_find vn 100000 (gv am an 0 d) (sT s, sR s, 0, 0)).2.2)])), (b1, .inl (cI, 10, .inl (sT (sr_find vn 100000 (gv am an 0 d) (sT s, sR s, 0, 0)).2.2))), (b2, .inl (cI, 10, .inl (sR (sr_find vn 100000 (gv am an 0 d) (sT s, sR s, 0, 0)).2.2))), (h, .inr (1, [.ref a1, .ref a2, .ref a3, .ref a4, .int (nI (dz ((sr_find vn 100000 (gv am an 0 d) (sT s, sR s, 0, 0)).2.1))), .int (nI (dl ((sr_find vn 100000 (gv am an 0 d) (sT s, sR s, 0, 0)).2.1))), .int (nI (dO ((sr_find vn 100000 (gv am an 0 d) (sT s, sR s, 0, 0)).2.1)))])), (a1, .inl (cI, 1575, .inl (dC ((sr_find vn 100000 (gv am an 0 d) (sT s, sR s, 0, 0)).2.1)))), (a2, .inl (cI, 1575, .inl (dF ((sr_find vn 100000 (gv am an 0 d) (sT s, sR s, 0, 0)).2.1)))), (a3, .inl (cI, 1575, .inl (dT ((sr_find vn 100000 (gv am an 0 d) (sT s, sR s, 0, 0)).2.1)))), (a4, .inl (cI, 3060, .inl (dK ((sr_find vn 100000 (gv am an 0 d) (sT s, sR s, 0, 0)).2.1))))]) [0, 1, 2, 8, 9, 10, 3, 4, 5, 6, 7] (by decide) rfl
    refine CTv_V (isC := [0, 1, 2, 3, 4, 5, 6, 7, 8, 9, 10]) (isR := []) (wr := []) (wi := [(q, .inr (3, [.ref h, .ref b, .ref g, .ref qa, .int (nI 0), .int (nI vn), .int (nI kn), .int tm, .int (nI tn), .int (if (sr_find vn 100000 (gv am an 0 d) (sT s, sR s, 0, 0)).1 = true then 1 else 0), .int (if (sr_find vn 100000 (gv am an 0 d) (sT s, sR s, 0, 0)).1 = true then sh (sr_find vn 100000 (gv am an 0 d) (sT s, sR s, 0, 0)).2.2 else 0)])), (qa, .inl (cI, 10, .inl (am))), (g, .inr (0, [.int f0])), (b, .inr (2, [.ref b1, .ref b2, .int (nI (sn (sr_find vn 100000 (gv am an 0 d) (sT s, sR s, 0, 0)).2.2)), .int (sh (sr_find vn 100000 (gv am an 0 d) (sT s, sR s, 0, 0)).2.2)])), (b1, .inl (cI, 10, .inl (sT (sr_find vn 100000 (gv am an 0 d) (sT s, sR s, 0, 0)).2.2))), (b2, .inl (cI, 10, .inl (sR (sr_find vn 100000 (gv am an 0 d) (sT s, sR s, 0, 0)).2.2))), (h, .inr (1, [.ref a1, .ref a2, .ref a3, .ref a4, .int (nI (dz ((sr_find vn 100000 (gv am an 0 d) (sT s, sR s, 0, 0)).2.1))), .int (nI (dl ((sr_find vn 100000 (gv am an 0 d) (sT s, sR s, 0, 0)).2.1))), .int (nI (dO ((sr_find vn 100000 (gv am an 0 d) (sT s, sR s, 0, 0)).2.1)))])), (a1, .inl (cI, 1575, .inl (dC ((sr_find vn 100000 (gv am an 0 d) (sT s, sR s, 0, 0)).2.1)))), (a2, .inl (cI, 1575, .inl (dF ((sr_find vn 100000 (gv am an 0 d) (sT s, sR s, 0, 0)).2.1)))), (a3, .inl (cI, 1575, .inl (dT ((sr_find vn 100000 (gv am an 0 d) (sT s, sR s, 0, 0)).2.1)))), (a4, .inl (cI, 3060, .inl (dK ((sr_find vn 100000 (gv am an 0 d) (sT s, sR s, 0, 0)).2.1))))]) (wo := [(q, .inr (3, [.ref h, .ref b, .ref g, .ref qa, .int (nI 0), .int (nI vn), .int (nI kn), .int tm, .int (nI tn), .int ((if (sr_find vn 100000 (gv am an 0 d) (sT s, sR s, 0, 0)).1 = true then 1 else 0)), .int ((if (sr_find vn 100000 (gv am an 0 d) (sT s, sR s, 0, 0)).1 = true then sh (sr_find vn 100000 (gv am an 0 d) (sT s, sR s, 0, 0)).2.2 else 0))])), (qa, .inl (cI, 10, .inl (am))), (g, .inr (0, [.int f0])), (b, .inr (2, [.ref b1, .ref b2, .int (nI (sn ((sr_find vn 100000 (gv am an 0 d) (sT s, sR s, 0, 0)).2.2))), .int (sh ((sr_find vn 100000 (gv am an 0 d) (sT s, sR s, 0, 0)).2.2))])), (b1, .inl (cI, 10, .inl (sT ((sr_find vn 100000 (gv am an 0 d) (sT s, sR s, 0, 0)).2.2)))), (b2, .inl (cI, 10, .inl (sR ((sr_find vn 100000 (gv am an 0 d) (sT s, sR s, 0, 0)).2.2)))), (h, .inr (1, [.ref a1, .ref a2, .ref a3, .ref a4, .int (nI (dz ((dk_keep (sr_find vn 100000 (gv am an 0 d) (sT s, sR s, 0, 0)).2.1 kn)))), .int (nI (dl ((dk_keep (sr_find vn 100000 (gv am an 0 d) (sT s, sR s, 0, 0)).2.1 kn)))), .int (nI (dO ((dk_keep (sr_find vn 100000 (gv am an 0 d) (sT s, sR s, 0, 0)).2.1 kn))))])), (a1, .inl (cI, 1575, .inl (dC ((dk_keep (sr_find vn 100000 (gv am an 0 d) (sT s, sR s, 0, 0)).2.1 kn))))), (a2, .inl (cI, 1575, .inl (dF ((dk_keep (sr_find vn 100000 (gv am an 0 d) (sT s, sR s, 0, 0)).2.1 kn))))), (a3, .inl (cI, 1575, .inl (dT ((dk_keep (sr_find vn 100000 (gv am an 0 d) (sT s, sR s, 0, 0)).2.1 kn))))), (a4, .inl (cI, 3060, .inl (dK ((dk_keep (sr_find vn 100000 (gv am an 0 d) (sT s, sR s, 0, 0)).2.1 kn)))))]) (b := q) (As := []) (rest := []) ⟨hx, hb, hml, hown, hts⟩ [0] (k_C_endQuestion l D cI q qa g b b1 b2 h a1 a2 a3 a4 am 0 vn kn tm tn (if (sr_find vn 100000 (gv am an 0 d) (sT s, sR s, 0, 0)).1 = true then 1 else 0) (if (sr_find vn 100000 (gv am an 0 d) (sT s, sR s, 0, 0)).1 = true then sh (sr_find vn 100000 (gv am an 0 d) (sT s, sR s, 0, 0)).2.2 else 0) f0 (sr_find vn 100000 (gv am an 0 d) (sT s, sR s, 0, 0)).2.2 (sr_find vn 100000 (gv am an 0 d) (sT s, sR s, 0, 0)).2.1 hd2 hkn) (cwV 0 hts v_C_94 rfl rfl rfl (by decide +kernel) ⟨Nat.le_of_ble_eq_true rfl, Nat.le_of_ble_eq_true rfl⟩) ⟨rfl, rfl, rfl, rfl, by decide⟩ rfl hK hP hD hS hA (va_recv (ci := 3) hK hP rfl (q0 := 0) rfl) rfl hl.1 (Nat.le_of_ble_eq_true rfl) d_C_solve_35 ⟨Nat.le_of_ble_eq_true rfl, Nat.le_of_ble_eq_true rfl⟩ (fun H locs hP hD hS => ?_)
    have hP : va_P D cls_ [(q, .inr (3, [.ref h, .ref b, .ref g, .ref qa, .int (nI 0), .int (nI vn), .int (nI kn), .int tm, .int (nI tn), .int ((if (sr_find vn 100000 (gv am an 0 d) (sT s, sR s, 0, 0)).1 = true then 1 else 0)), .int ((if (sr_find vn 100000 (gv am an 0 d) (sT s, sR s, 0, 0)).1 = true then sh (sr_find vn 100000 (gv am an 0 d) (sT s, sR s, 0, 0)).2.2 else 0))])), (qa, .inl (cI, 10, .inl (am))), (g, .inr (0, [.int f0])), (b, .inr (2, [.ref b1, .ref b2, .int (nI (sn ((sr_find vn 100000 (gv am an 0 d) (sT s, sR s, 0, 0)).2.2))), .int (sh ((sr_find vn 100000 (gv am an 0 d) (sT s, sR s, 0, 0)).2.2))])), (b1, .inl (cI, 10, .inl (sT ((sr_find vn 100000 (gv am an 0 d) (sT s, sR s, 0, 0)).2.2)))), (b2, .inl (cI, 10, .inl (sR ((sr_find vn 100000 (gv am an 0 d) (sT s, sR s, 0, 0)).2.2)))), (h, .inr (1, [.ref a1, .ref a2, .ref a3, .ref a4, .int (nI (dz ((dk_keep (sr_find vn 100000 (gv am an 0 d) (sT s, sR s, 0, 0)).2.1 kn)))), .int (nI (dl ((dk_keep (sr_find vn 100000 (gv am an 0 d) (sT s, sR s, 0, 0)).2.1 kn)))), .int (nI (dO ((dk_keep (sr_find vn 100000 (gv am an 0 d) (sT s, sR s, 0, 0)).2.1 kn))))])), (a1, .inl (cI, 1575, .inl (dC ((dk_keep (sr_find vn 100000 (gv am an 0 d) (sT s, sR s, 0, 0)).2.1 kn))))), (a2, .inl (cI, 1575, .inl (dF ((dk_keep (sr_find vn 100000 (gv am an 0 d) (sT s, sR s, 0, 0)).2.1 kn))))), (a3, .inl (cI, 1575, .inl (dT ((dk_keep (sr_find vn 100000 (gv am an 0 d) (sT s, sR s, 0, 0)).2.1 kn))))), (a4, .inl (cI, 3060, .inl (dK ((dk_keep (sr_find vn 100000 (gv am an 0 d) (sT s, sR s, 0, 0)).2.1 kn)))))] H := hP
    have hD : va_D A [(q, .inr (3, [.ref h, .ref b, .ref g, .ref qa, .int (nI 0), .int (nI vn), .int (nI kn), .int tm, .int (nI tn), .int ((if (sr_find vn 100000 (gv am an 0 d) (sT s, sR s, 0, 0)).1 = true then 1 else 0)), .int ((if (sr_find vn 100000 (gv am an 0 d) (sT s, sR s, 0, 0)).1 = true then sh (sr_find vn 100000 (gv am an 0 d) (sT s, sR s, 0, 0)).2.2 else 0))])), (qa, .inl (cI, 10, .inl (am))), (g, .inr (0, [.int f0])), (b, .inr (2, [.ref b1, .ref b2, .int (nI (sn ((sr_find vn 100000 (gv am an 0 d) (sT s, sR s, 0, 0)).2.2))), .int (sh ((sr_find vn 100000 (gv am an 0 d) (sT s, sR s, 0, 0)).2.2))])), (b1, .inl (cI, 10, .inl (sT ((sr_find vn 100000 (gv am an 0 d) (sT s, sR s, 0, 0)).2.2)))), (b2, .inl (cI, 10, .inl (sR ((sr_find vn 100000 (gv am an 0 d) (sT s, sR s, 0, 0)).2.2)))), (h, .inr (1, [.ref a1, .ref a2, .ref a3, .ref a4, .int (nI (dz ((dk_keep (sr_find vn 100000 (gv am an 0 d) (sT s, sR s, 0, 0)).2.1 kn)))), .int (nI (dl ((dk_keep (sr_find vn 100000 (gv am an 0 d) (sT s, sR s, 0, 0)).2.1 kn)))), .int (nI (dO ((dk_keep (sr_find vn 100000 (gv am an 0 d) (sT s, sR s, 0, 0)).2.1 kn))))])), (a1, .inl (cI, 1575, .inl (dC ((dk_keep (sr_find vn 100000 (gv am an 0 d) (sT s, sR s, 0, 0)).2.1 kn))))), (a2, .inl (cI, 1575, .inl (dF ((dk_keep (sr_find vn 100000 (gv am an 0 d) (sT s, sR s, 0, 0)).2.1 kn))))), (a3, .inl (cI, 1575, .inl (dT ((dk_keep (sr_find vn 100000 (gv am an 0 d) (sT s, sR s, 0, 0)).2.1 kn))))), (a4, .inl (cI, 3060, .inl (dK ((dk_keep (sr_find vn 100000 (gv am an 0 d) (sT s, sR s, 0, 0)).2.1 kn)))))] := hD
    refine lv_aload_n hx hb d_C_solve_38 rfl (lv_at hl 0 rfl) ?_
    refine va_get (D := D) (ci := 3) (v := .int ((if (sr_find vn 100000 (gv am an 0 d) (sT s, sR s, 0, 0)).1 = true then 1 else 0))) (C := R_C) (T := T_C) (N := 11) hx hb hts u_C hown hK hP 0 rfl rfl 9 (by decide) (hts _ f_C_83) (fun _ h9 => h9) rfl d_C_solve_39 ?_
    exact fin _ _ _ _ _ hP hD hS (rfl) d_C_solve_42
set_option maxHeartbeats 4000000 in
set_option maxRecDepth 100000 in
theorem k_C_models (l : Launch) (D : va_G) (cI : ClassId) (q qa g b b1 b2 h a1 a2 a3 a4 : Nat) (am : Nat → Int32) (an vn kn : Nat) (tm : Int32) (tn : Nat) (hm mo f0 : Int32) (s : SS) (d : DS) (han : an ≤ 10) (hkn : kn ≤ 500) (hs : sn s ≤ 10) (hd : DW d) (hvn : vn ≤ 10) (t : Nat → Nat) (g0 : Nat) (hg0 : g0 ≤ 510) (hFI : FI vn (gv am an 0 d) (sT s, sR s, 0, 0) t 0 g0) : KTi l y_C_models c_C_models 2 .int { frames := 6, cells := 0, slots := 0, locals := 137 } D [(cI, .int)] [.ref q] (wC cI q qa g b b1 b2 h a1 a2 a3 a4 am an vn kn tm tn hm mo f0 s d) (nI (md vn 40 0 (gv am an 0 d) (sT s, sR s, 0, 0)).1) (wC cI q qa g b b1 b2 h a1 a2 a3 a4 am 0 vn kn tm tn 0 0 f0 ((md vn 40 0 (gv am an 0 d) (sT s, sR s, 0, 0)).2.2) ((dk_keep (md vn 40 0 (gv am an 0 d) (sT s, sR s, 0, 0)).2.1 kn))) := by
  refine KTi_of (own := R_C) (by decide +kernel) rfl (Nat.le_of_ble_eq_true rfl) (vp_nar_int _) ?_
  intro p e st m below meth c A ls Q hx hb hml hts hown hK hP hD hS hA hl fin
  generalize hT : md vn 40 0 (gv am an 0 d) (sT s, sR s, 0, 0) = res at fin
  have loop : ∀ (k j : Nat) (v : SS) (u : DS) (t : Nat → Nat) (L : Nat) (ls : Array Slot) (H : Heap) (locs : List Loc), j + k = 40 → FI vn u v t L (g0 + j) → md vn k j u v = res → va_P D cls_ [(q, .inr (3, [.ref h, .ref b, .ref g, .ref qa, .int (nI 0), .int (nI vn), .int (nI kn), .int tm, .int (nI tn), .int 0, .int 0])), (qa, .inl (cI, 10, .inl (am))), (g, .inr (0, [.int f0])), (b, .inr (2, [.ref b1, .ref b2, .int (nI (sn v)), .int (sh v)])), (b1, .inl (cI, 10, .inl (sT v))), (b2, .inl (cI, 10, .inl (sR v))), (h, .inr (1, [.ref a1, .ref a2, .ref a3, .ref a4, .int (nI (dz u)), .int (nI (dl u)), .int (nI (dO u))])), (a1, .inl (cI, 1575, .inl (dC u))), (a2, .inl (cI, 1575, .inl (dF u))), (a3, .inl (cI, 1575, .inl (dT u))), (a4, .inl (cI, 3060, .inl (dK u)))] H → va_D A [(q, .inr (3, [.ref h, .ref b, .ref g, .ref qa, .int (nI 0), .int (nI vn), .int (nI kn), .int tm, .int (nI tn), .int 0, .int 0])), (qa, .inl (cI, 10, .inl (am))), (g, .inr (0, [.int f0])), (b, .inr (2, [.ref b1, .ref b2, .int (nI (sn v)), .int (sh v)])), (b1, .inl (cI, 10, .inl (sT v))), (b2, .inl (cI, 10, .inl (sR v))), (h, .inr (1, [.ref a1, .ref a2, .ref a3, .ref a4, .int (nI (dz u)), .int (nI (dl u)), .int (nI (dO u))])), (a1, .inl (cI, 1575, .inl (dC u))), (a2, .inl (cI, 1575, .inl (dF u))), (a3, .inl (cI, 1575, .inl (dT u))), (a4, .inl (cI, 3060, .inl (dK u)))] → va_S A st.heap H locs → lv_has ls 2 [(1, .int (nI j)), (0, .ref q)] → W p l e { frames := 6, cells := 0, slots := 0, locals := 137 } st m [Value.ref q].toArray below meth c H locs 0 0 Q (F0 m 6 ls []) := by
    intro k
    induction k with
    | zero =>
      intro j v u t L ls H locs hj hF he hP hD hS hl
      have he : (j, u, v) = res := he
      subst he
      have hu := FI_DW (show g0 + j ≤ 551 by omega) hF
      refine lv_iload_n hx hb d_C_models_6 rfl (lv_at hl 0 rfl) ?_
      refine lv_bipush (v := 40) hx hb d_C_models_7 (by decide +kernel) ?_
      refine lv_icmp_ge (tgt := 42) hx hb d_C_models_9 rfl (fun hc9 => ?_) (fun hc9 => absurd (nI_le (a := 40) (by omega) (by omega)) hc9)
      refine lv_aload_n hx hb d_C_models_42 rfl (lv_at hl 1 rfl) ?_
      refine CTv_V (isC := [0, 1, 2, 3, 4, 5, 6, 7, 8, 9, 10]) (isR := []) (wr := []) (wi := [(q, .inr (3, [.ref h, .ref b, .ref g, .ref qa, .int (nI 0), .int (nI vn), .int (nI kn), .int tm, .int (nI tn), .int 0, .int 0])), (qa, .inl (cI, 10, .inl (am))), (g, .inr (0, [.int f0])), (b, .inr (2, [.ref b1, .ref b2, .int (nI (sn v)), .int (sh v)])), (b1, .inl (cI, 10, .inl (sT v))), (b2, .inl (cI, 10, .inl (sR v))), (h, .inr (1, [.ref a1, .ref a2, .ref a3, .ref a4, .int (nI (dz u)), .int (nI (dl u)), .int (nI (dO u))])), (a1, .inl (cI, 1575, .inl (dC u))), (a2, .inl (cI, 1575, .inl (dF u))), (a3, .inl (cI, 1575, .inl (dT u))), (a4, .inl (cI, 3060, .inl (dK u)))]) (wo := [(q, .inr (3, [.ref h, .ref b, .ref g, .ref qa, .int (nI 0), .int (nI vn), .int (nI kn), .int tm, .int (nI tn), .int 0, .int 0])), (qa, .inl (cI, 10, .inl (am))), (g, .inr (0, [.int f0])), (b, .inr (2, [.ref b1, .ref b2, .int (nI (sn v)), .int (sh v)])), (b1, .inl (cI, 10, .inl (sT v))), (b2, .inl (cI, 10, .inl (sR v))), (h, .inr (1, [.ref a1, .ref a2, .ref a3, .ref a4, .int (nI (dz ((dk_keep u kn)))), .int (nI (dl ((dk_keep u kn)))), .int (nI (dO ((dk_keep u kn))))])), (a1, .inl (cI, 1575, .inl (dC ((dk_keep u kn))))), (a2, .inl (cI, 1575, .inl (dF ((dk_keep u kn))))), (a3, .inl (cI, 1575, .inl (dT ((dk_keep u kn))))), (a4, .inl (cI, 3060, .inl (dK ((dk_keep u kn)))))]) (b := q) (As := []) (rest := []) ⟨hx, hb, hml, hown, hts⟩ [0] (k_C_endQuestion l D cI q qa g b b1 b2 h a1 a2 a3 a4 am 0 vn kn tm tn 0 0 f0 v u hu hkn) (cwV 0 hts v_C_94 rfl rfl rfl (by decide +kernel) ⟨Nat.le_of_ble_eq_true rfl, Nat.le_of_ble_eq_true rfl⟩) ⟨rfl, rfl, rfl, rfl, by decide⟩ rfl hK hP hD hS hA (va_recv (ci := 3) hK hP rfl (q0 := 0) rfl) rfl hl.1 (Nat.le_of_ble_eq_true rfl) d_C_models_43 ⟨Nat.le_of_ble_eq_true rfl, Nat.le_of_ble_eq_true rfl⟩ (fun H locs hP hD hS => ?_)
      have hP : va_P D cls_ [(q, .inr (3, [.ref h, .ref b, .ref g, .ref qa, .int (nI 0), .int (nI vn), .int (nI kn), .int tm, .int (nI tn), .int 0, .int 0])), (qa, .inl (cI, 10, .inl (am))), (g, .inr (0, [.int f0])), (b, .inr (2, [.ref b1, .ref b2, .int (nI (sn v)), .int (sh v)])), (b1, .inl (cI, 10, .inl (sT v))), (b2, .inl (cI, 10, .inl (sR v))), (h, .inr (1, [.ref a1, .ref a2, .ref a3, .ref a4, .int (nI (dz ((dk_keep u kn)))), .int (nI (dl ((dk_keep u kn)))), .int (nI (dO ((dk_keep u kn))))])), (a1, .inl (cI, 1575, .inl (dC ((dk_keep u kn))))), (a2, .inl (cI, 1575, .inl (dF ((dk_keep u kn))))), (a3, .inl (cI, 1575, .inl (dT ((dk_keep u kn))))), (a4, .inl (cI, 3060, .inl (dK ((dk_keep u kn)))))] H := hP
      have hD : va_D A [(q, .inr (3, [.ref h, .ref b, .ref g, .ref qa, .int (nI 0), .int (nI vn), .int (nI kn), .int tm, .int (nI tn), .int 0, .int 0])), (qa, .inl (cI, 10, .inl (am))), (g, .inr (0, [.int f0])), (b, .inr (2, [.ref b1, .ref b2, .int (nI (sn v)), .int (sh v)])), (b1, .inl (cI, 10, .inl (sT v))), (b2, .inl (cI, 10, .inl (sR v))), (h, .inr (1, [.ref a1, .ref a2, .ref a3, .ref a4, .int (nI (dz ((dk_keep u kn)))), .int (nI (dl ((dk_keep u kn)))), .int (nI (dO ((dk_keep u kn))))])), (a1, .inl (cI, 1575, .inl (dC ((dk_keep u kn))))), (a2, .inl (cI, 1575, .inl (dF ((dk_keep u kn))))), (a3, .inl (cI, 1575, .inl (dT ((dk_keep u kn))))), (a4, .inl (cI, 3060, .inl (dK ((dk_keep u kn)))))] := hD
      refine lv_iload_n hx hb d_C_models_46 rfl (lv_at hl 0 rfl) ?_
      exact fin _ _ _ _ _ hP hD hS (rfl) d_C_models_47
    | succ k ih =>
      intro j v u t L ls H locs hj hF he hP hD hS hl
      have hg1 : g0 + j ≤ 551 := by omega
      obtain ⟨hd2, -, -⟩ := next_ok hvn hg1 hF
      have hs2 : sn (sr_find vn 100000 u v).2.2 ≤ 10 := find_le 100000 u (Nat.le_trans (TR_len hF.2.1).1 hvn)
      refine lv_iload_n hx hb d_C_models_6 rfl (lv_at hl 0 rfl) ?_
      refine lv_bipush (v := 40) hx hb d_C_models_7 (by decide +kernel) ?_
      refine lv_icmp_ge (tgt := 42) hx hb d_C_models_9 rfl (fun hc9 => absurd hc9 (nI_ge (b := 40) (by omega) (by decide))) (fun hc9 => ?_)
      refine lv_aload_n hx hb d_C_models_12 rfl (lv_at hl 1 rfl) ?_
      refine CTi_V (isC := [0, 1, 2, 3, 4, 5, 6, 7, 8, 9, 10]) (isR := []) (wr := []) (wi := [(q, .inr (3, [.ref h, .ref b, .ref g, .ref qa, .int (nI 0), .int (nI vn), .int (nI kn), .int tm, .int (nI tn), .int 0, .int 0])), (qa, .inl (cI, 10, .inl (am))), (g, .inr (0, [.int f0])), (b, .inr (2, [.ref b1, .ref b2, .int (nI (sn v)), .int (sh v)])), (b1, .inl (cI, 10, .inl (sT v))), (b2, .inl (cI, 10, .inl (sR v))), (h, .inr (1, [.ref a1, .ref a2, .ref a3, .ref a4, .int (nI (dz u)), .int (nI (dl u)), .int (nI (dO u))])), (a1, .inl (cI, 1575, .inl (dC u))), (a2, .inl (cI, 1575, .inl (dF u))), (a3, .inl (cI, 1575, .inl (dT u))), (a4, .inl (cI, 3060, .inl (dK u)))]) (wo := [(q, .inr (3, [.ref h, .ref b, .ref g, .ref qa, .int (nI 0), .int (nI vn), .int (nI kn), .int tm, .int (nI tn), .int 0, .int 0])), (qa, .inl (cI, 10, .inl (am))), (g, .inr (0, [.int f0])), (b, .inr (2, [.ref b1, .ref b2, .int (nI (sn ((sr_find vn 100000 u v).2.2))), .int (sh ((sr_find vn 100000 u v).2.2))])), (b1, .inl (cI, 10, .inl (sT ((sr_find vn 100000 u v).2.2)))), (b2, .inl (cI, 10, .inl (sR ((sr_find vn 100000 u v).2.2)))), (h, .inr (1, [.ref a1, .ref a2, .ref a3, .ref a4, .int (nI (dz ((sr_find vn 100000 u v).2.1))), .int (nI (dl ((sr_find vn 100000 u v).2.1))), .int (nI (dO ((sr_find vn 100000 u v).2.1)))])), (a1, .inl (cI, 1575, .inl (dC ((sr_find vn 100000 u v).2.1)))), (a2, .inl (cI, 1575, .inl (dF ((sr_find vn 100000 u v).2.1)))), (a3, .inl (cI, 1575, .inl (dT ((sr_find vn 100000 u v).2.1)))), (a4, .inl (cI, 3060, .inl (dK ((sr_find vn 100000 u v).2.1))))]) (b := q) (As := []) (rest := []) ⟨hx, hb, hml, hown, hts⟩ [0] (k_C_nextModel l D cI q qa g b b1 b2 h a1 a2 a3 a4 am 0 vn kn tm tn 0 0 f0 v u hvn t L (g0 + j) hg1 hF) (cwV 0 hts v_C_79 rfl rfl rfl (by decide +kernel) ⟨Nat.le_of_ble_eq_true rfl, Nat.le_of_ble_eq_true rfl⟩) ⟨rfl, rfl, rfl, rfl, by decide⟩ rfl hK hP hD hS hA (va_recv (ci := 3) hK hP rfl (q0 := 0) rfl) rfl hl.1 (Nat.le_of_ble_eq_true rfl) d_C_models_13 ⟨Nat.le_of_ble_eq_true rfl, Nat.le_of_ble_eq_true rfl⟩ (fun H locs hP hD hS => ?_)
      have hP : va_P D cls_ [(q, .inr (3, [.ref h, .ref b, .ref g, .ref qa, .int (nI 0), .int (nI vn), .int (nI kn), .int tm, .int (nI tn), .int 0, .int 0])), (qa, .inl (cI, 10, .inl (am))), (g, .inr (0, [.int f0])), (b, .inr (2, [.ref b1, .ref b2, .int (nI (sn ((sr_find vn 100000 u v).2.2))), .int (sh ((sr_find vn 100000 u v).2.2))])), (b1, .inl (cI, 10, .inl (sT ((sr_find vn 100000 u v).2.2)))), (b2, .inl (cI, 10, .inl (sR ((sr_find vn 100000 u v).2.2)))), (h, .inr (1, [.ref a1, .ref a2, .ref a3, .ref a4, .int (nI (dz ((sr_find vn 100000 u v).2.1))), .int (nI (dl ((sr_find vn 100000 u v).2.1))), .int (nI (dO ((sr_find vn 100000 u v).2.1)))])), (a1, .inl (cI, 1575, .inl (dC ((sr_find vn 100000 u v).2.1)))), (a2, .inl (cI, 1575, .inl (dF ((sr_find vn 100000 u v).2.1)))), (a3, .inl (cI, 1575, .inl (dT ((sr_find vn 100000 u v).2.1)))), (a4, .inl (cI, 3060, .inl (dK ((sr_find vn 100000 u v).2.1))))] H := hP
      have hD : va_D A [(q, .inr (3, [.ref h, .ref b, .ref g, .ref qa, .int (nI 0), .int (nI vn), .int (nI kn), .int tm, .int (nI tn), .int 0, .int 0])), (qa, .inl (cI, 10, .inl (am))), (g, .inr (0, [.int f0])), (b, .inr (2, [.ref b1, .ref b2, .int (nI (sn ((sr_find vn 100000 u v).2.2))), .int (sh ((sr_find vn 100000 u v).2.2))])), (b1, .inl (cI, 10, .inl (sT ((sr_find vn 100000 u v).2.2)))), (b2, .inl (cI, 10, .inl (sR ((sr_find vn 100000 u v).2.2)))), (h, .inr (1, [.ref a1, .ref a2, .ref a3, .ref a4, .int (nI (dz ((sr_find vn 100000 u v).2.1))), .int (nI (dl ((sr_find vn 100000 u v).2.1))), .int (nI (dO ((sr_find vn 100000 u v).2.1)))])), (a1, .inl (cI, 1575, .inl (dC ((sr_find vn 100000 u v).2.1)))), (a2, .inl (cI, 1575, .inl (dF ((sr_find vn 100000 u v).2.1)))), (a3, .inl (cI, 1575, .inl (dT ((sr_find vn 100000 u v).2.1)))), (a4, .inl (cI, 3060, .inl (dK ((sr_find vn 100000 u v).2.1))))] := hD
      refine lv_if_eq (tgt := 42) hx hb d_C_models_16 rfl (fun hc16 => ?_) (fun hc16 => ?_)
      · refine lv_aload_n hx hb d_C_models_42 rfl (lv_at hl 1 rfl) ?_
        refine CTv_V (isC := [0, 1, 2, 3, 4, 5, 6, 7, 8, 9, 10]) (isR := []) (wr := []) (wi := [(q, .inr (3, [.ref h, .ref b, .ref g, .ref qa, .int (nI 0), .int (nI vn), .int (nI kn), .int tm, .int (nI tn), .int 0, .int 0])), (qa, .inl (cI, 10, .inl (am))), (g, .inr (0, [.int f0])), (b, .inr (2, [.ref b1, .ref b2, .int (nI (sn ((sr_find vn 100000 u v).2.2))), .int (sh ((sr_find vn 100000 u v).2.2))])), (b1, .inl (cI, 10, .inl (sT ((sr_find vn 100000 u v).2.2)))), (b2, .inl (cI, 10, .inl (sR ((sr_find vn 100000 u v).2.2)))), (h, .inr (1, [.ref a1, .ref a2, .ref a3, .ref a4, .int (nI (dz ((sr_find vn 100000 u v).2.1))), .int (nI (dl ((sr_find vn 100000 u v).2.1))), .int (nI (dO ((sr_find vn 100000 u v).2.1)))])), (a1, .inl (cI, 1575, .inl (dC ((sr_find vn 100000 u v).2.1)))), (a2, .inl (cI, 1575, .inl (dF ((sr_find vn 100000 u v).2.1)))), (a3, .inl (cI, 1575, .inl (dT ((sr_find vn 100000 u v).2.1)))), (a4, .inl (cI, 3060, .inl (dK ((sr_find vn 100000 u v).2.1))))]) (wo := [(q, .inr (3, [.ref h, .ref b, .ref g, .ref qa, .int (nI 0), .int (nI vn), .int (nI kn), .int tm, .int (nI tn), .int 0, .int 0])), (qa, .inl (cI, 10, .inl (am))), (g, .inr (0, [.int f0])), (b, .inr (2, [.ref b1, .ref b2, .int (nI (sn ((sr_find vn 100000 u v).2.2))), .int (sh ((sr_find vn 100000 u v).2.2))])), (b1, .inl (cI, 10, .inl (sT ((sr_find vn 100000 u v).2.2)))), (b2, .inl (cI, 10, .inl (sR ((sr_find vn 100000 u v).2.2)))), (h, .inr (1, [.ref a1, .ref a2, .ref a3, .ref a4, .int (nI (dz ((dk_keep (sr_find vn 100000 u v).2.1 kn)))), .int (nI (dl ((dk_keep (sr_find vn 100000 u v).2.1 kn)))), .int (nI (dO ((dk_keep (sr_find vn 100000 u v).2.1 kn))))])), (a1, .inl (cI, 1575, .inl (dC ((dk_keep (sr_find vn 100000 u v).2.1 kn))))), (a2, .inl (cI, 1575, .inl (dF ((dk_keep (sr_find vn 100000 u v).2.1 kn))))), (a3, .inl (cI, 1575, .inl (dT ((dk_keep (sr_find vn 100000 u v).2.1 kn))))), (a4, .inl (cI, 3060, .inl (dK ((dk_keep (sr_find vn 100000 u v).2.1 kn)))))]) (b := q) (As := []) (rest := []) ⟨hx, hb, hml, hown, hts⟩ [0] (k_C_endQuestion l D cI q qa g b b1 b2 h a1 a2 a3 a4 am 0 vn kn tm tn 0 0 f0 (sr_find vn 100000 u v).2.2 (sr_find vn 100000 u v).2.1 hd2 hkn) (cwV 0 hts v_C_94 rfl rfl rfl (by decide +kernel) ⟨Nat.le_of_ble_eq_true rfl, Nat.le_of_ble_eq_true rfl⟩) ⟨rfl, rfl, rfl, rfl, by decide⟩ rfl hK hP hD hS hA (va_recv (ci := 3) hK hP rfl (q0 := 0) rfl) rfl hl.1 (Nat.le_of_ble_eq_true rfl) d_C_models_43 ⟨Nat.le_of_ble_eq_true rfl, Nat.le_of_ble_eq_true rfl⟩ (fun H locs hP hD hS => ?_)
        have hP : va_P D cls_ [(q, .inr (3, [.ref h, .ref b, .ref g, .ref qa, .int (nI 0), .int (nI vn), .int (nI kn), .int tm, .int (nI tn), .int 0, .int 0])), (qa, .inl (cI, 10, .inl (am))), (g, .inr (0, [.int f0])), (b, .inr (2, [.ref b1, .ref b2, .int (nI (sn ((sr_find vn 100000 u v).2.2))), .int (sh ((sr_find vn 100000 u v).2.2))])), (b1, .inl (cI, 10, .inl (sT ((sr_find vn 100000 u v).2.2)))), (b2, .inl (cI, 10, .inl (sR ((sr_find vn 100000 u v).2.2)))), (h, .inr (1, [.ref a1, .ref a2, .ref a3, .ref a4, .int (nI (dz ((dk_keep (sr_find vn 100000 u v).2.1 kn)))), .int (nI (dl ((dk_keep (sr_find vn 100000 u v).2.1 kn)))), .int (nI (dO ((dk_keep (sr_find vn 100000 u v).2.1 kn))))])), (a1, .inl (cI, 1575, .inl (dC ((dk_keep (sr_find vn 100000 u v).2.1 kn))))), (a2, .inl (cI, 1575, .inl (dF ((dk_keep (sr_find vn 100000 u v).2.1 kn))))), (a3, .inl (cI, 1575, .inl (dT ((dk_keep (sr_find vn 100000 u v).2.1 kn))))), (a4, .inl (cI, 3060, .inl (dK ((dk_keep (sr_find vn 100000 u v).2.1 kn)))))] H := hP
        have hD : va_D A [(q, .inr (3, [.ref h, .ref b, .ref g, .ref qa, .int (nI 0), .int (nI vn), .int (nI kn), .int tm, .int (nI tn), .int 0, .int 0])), (qa, .inl (cI, 10, .inl (am))), (g, .inr (0, [.int f0])), (b, .inr (2, [.ref b1, .ref b2, .int (nI (sn ((sr_find vn 100000 u v).2.2))), .int (sh ((sr_find vn 100000 u v).2.2))])), (b1, .inl (cI, 10, .inl (sT ((sr_find vn 100000 u v).2.2)))), (b2, .inl (cI, 10, .inl (sR ((sr_find vn 100000 u v).2.2)))), (h, .inr (1, [.ref a1, .ref a2, .ref a3, .ref a4, .int (nI (dz ((dk_keep (sr_find vn 100000 u v).2.1 kn)))), .int (nI (dl ((dk_keep (sr_find vn 100000 u v).2.1 kn)))), .int (nI (dO ((dk_keep (sr_find vn 100000 u v).2.1 kn))))])), (a1, .inl (cI, 1575, .inl (dC ((dk_keep (sr_find vn 100000 u v).2.1 kn))))), (a2, .inl (cI, 1575, .inl (dF ((dk_keep (sr_find vn 100000 u v).2.1 kn))))), (a3, .inl (cI, 1575, .inl (dT ((dk_keep (sr_find vn 100000 u v).2.1 kn))))), (a4, .inl (cI, 3060, .inl (dK ((dk_keep (sr_find vn 100000 u v).2.1 kn)))))] := hD
        refine lv_iload_n hx hb d_C_models_46 rfl (lv_at hl 0 rfl) ?_
        have he9 : (j, (sr_find vn 100000 u v).2.1, (sr_find vn 100000 u v).2.2) = res := by rw [← he, md_s, if_neg (it0 hc16)]
        subst he9
        exact fin _ _ _ _ _ hP hD hS rfl d_C_models_47
      · refine lv_iinc (k := 0) (v := (nI (j + 1))) (lv' := [(1, .int (nI (j + 1))), (0, .ref q)]) hx hb d_C_models_19 hl rfl (nI_1 j) (by decide) rfl (fun ls hl => ?_)
        refine lv_aload_n hx hb d_C_models_22 rfl (lv_at hl 1 rfl) ?_
        refine va_get (D := D) (ci := 3) (v := .ref h) (C := R_C) (T := T_C) (N := 11) hx hb hts u_C hown hK hP 0 rfl rfl 0 (by decide) (hts _ f_C_10) (fun _ h9 => h9) rfl d_C_models_23 ?_
        refine lv_aload_n hx hb d_C_models_26 rfl (lv_at hl 1 rfl) ?_
        refine va_get (D := D) (ci := 3) (v := .ref b) (C := R_C) (T := T_C) (N := 11) hx hb hts u_C hown hK hP 0 rfl rfl 1 (by decide) (hts _ f_C_19) (fun _ h9 => h9) rfl d_C_models_27 ?_
        refine CTi_V (isC := [3, 4, 5]) (isR := [0, 1, 2, 6, 7, 8, 9, 10]) (wr := [(q, .inr (3, [.ref h, .ref b, .ref g, .ref qa, .int (nI 0), .int (nI vn), .int (nI kn), .int tm, .int (nI tn), .int 0, .int 0])), (qa, .inl (cI, 10, .inl (am))), (g, .inr (0, [.int f0])), (h, .inr (1, [.ref a1, .ref a2, .ref a3, .ref a4, .int (nI (dz ((sr_find vn 100000 u v).2.1))), .int (nI (dl ((sr_find vn 100000 u v).2.1))), .int (nI (dO ((sr_find vn 100000 u v).2.1)))])), (a1, .inl (cI, 1575, .inl (dC ((sr_find vn 100000 u v).2.1)))), (a2, .inl (cI, 1575, .inl (dF ((sr_find vn 100000 u v).2.1)))), (a3, .inl (cI, 1575, .inl (dT ((sr_find vn 100000 u v).2.1)))), (a4, .inl (cI, 3060, .inl (dK ((sr_find vn 100000 u v).2.1))))]) (wi := [(b, .inr (2, [.ref b1, .ref b2, .int (nI (sn ((sr_find vn 100000 u v).2.2))), .int (sh ((sr_find vn 100000 u v).2.2))])), (b1, .inl (cI, 10, .inl (sT ((sr_find vn 100000 u v).2.2)))), (b2, .inl (cI, 10, .inl (sR ((sr_find vn 100000 u v).2.2))))]) (wo := [(b, .inr (2, [.ref b1, .ref b2, .int (nI (sn (sr_find vn 100000 u v).2.2)), .int (sh (sr_find vn 100000 u v).2.2)])), (b1, .inl (cI, 10, .inl (sT (sr_find vn 100000 u v).2.2))), (b2, .inl (cI, 10, .inl (sR (sr_find vn 100000 u v).2.2)))]) (b := b) (As := []) (rest := [.ref h]) ⟨hx, hb, hml, hown, hts⟩ [0] (k_S_held l D cI b b1 b2 (sr_find vn 100000 u v).2.2 hs2) (cwV 0 hts v_C_87 rfl rfl rfl (by decide +kernel) ⟨Nat.le_of_ble_eq_true rfl, Nat.le_of_ble_eq_true rfl⟩) ⟨rfl, rfl, rfl, rfl, by decide⟩ rfl hK hP hD hS hA (va_recv (ci := 2) hK hP rfl (q0 := 3) rfl) rfl hl.1 (Nat.le_of_ble_eq_true rfl) d_C_models_30 ⟨Nat.le_of_ble_eq_true rfl, Nat.le_of_ble_eq_true rfl⟩ (fun H locs hP hD hS => ?_)
        have hP : va_P D cls_ [(q, .inr (3, [.ref h, .ref b, .ref g, .ref qa, .int (nI 0), .int (nI vn), .int (nI kn), .int tm, .int (nI tn), .int 0, .int 0])), (qa, .inl (cI, 10, .inl (am))), (g, .inr (0, [.int f0])), (h, .inr (1, [.ref a1, .ref a2, .ref a3, .ref a4, .int (nI (dz ((sr_find vn 100000 u v).2.1))), .int (nI (dl ((sr_find vn 100000 u v).2.1))), .int (nI (dO ((sr_find vn 100000 u v).2.1)))])), (a1, .inl (cI, 1575, .inl (dC ((sr_find vn 100000 u v).2.1)))), (a2, .inl (cI, 1575, .inl (dF ((sr_find vn 100000 u v).2.1)))), (a3, .inl (cI, 1575, .inl (dT ((sr_find vn 100000 u v).2.1)))), (a4, .inl (cI, 3060, .inl (dK ((sr_find vn 100000 u v).2.1)))), (b, .inr (2, [.ref b1, .ref b2, .int (nI (sn (sr_find vn 100000 u v).2.2)), .int (sh (sr_find vn 100000 u v).2.2)])), (b1, .inl (cI, 10, .inl (sT (sr_find vn 100000 u v).2.2))), (b2, .inl (cI, 10, .inl (sR (sr_find vn 100000 u v).2.2)))] H := hP
        have hD : va_D A [(q, .inr (3, [.ref h, .ref b, .ref g, .ref qa, .int (nI 0), .int (nI vn), .int (nI kn), .int tm, .int (nI tn), .int 0, .int 0])), (qa, .inl (cI, 10, .inl (am))), (g, .inr (0, [.int f0])), (h, .inr (1, [.ref a1, .ref a2, .ref a3, .ref a4, .int (nI (dz ((sr_find vn 100000 u v).2.1))), .int (nI (dl ((sr_find vn 100000 u v).2.1))), .int (nI (dO ((sr_find vn 100000 u v).2.1)))])), (a1, .inl (cI, 1575, .inl (dC ((sr_find vn 100000 u v).2.1)))), (a2, .inl (cI, 1575, .inl (dF ((sr_find vn 100000 u v).2.1)))), (a3, .inl (cI, 1575, .inl (dT ((sr_find vn 100000 u v).2.1)))), (a4, .inl (cI, 3060, .inl (dK ((sr_find vn 100000 u v).2.1)))), (b, .inr (2, [.ref b1, .ref b2, .int (nI (sn (sr_find vn 100000 u v).2.2)), .int (sh (sr_find vn 100000 u v).2.2)])), (b1, .inl (cI, 10, .inl (sT (sr_find vn 100000 u v).2.2))), (b2, .inl (cI, 10, .inl (sR (sr_find vn 100000 u v).2.2)))] := hD
        refine CTi_S (isC := []) (isR := [0, 1, 2, 3, 4, 5, 6, 7, 8, 9, 10]) (wr := [(q, .inr (3, [.ref h, .ref b, .ref g, .ref qa, .int (nI 0), .int (nI vn), .int (nI kn), .int tm, .int (nI tn), .int 0, .int 0])), (qa, .inl (cI, 10, .inl (am))), (g, .inr (0, [.int f0])), (h, .inr (1, [.ref a1, .ref a2, .ref a3, .ref a4, .int (nI (dz ((sr_find vn 100000 u v).2.1))), .int (nI (dl ((sr_find vn 100000 u v).2.1))), .int (nI (dO ((sr_find vn 100000 u v).2.1)))])), (a1, .inl (cI, 1575, .inl (dC ((sr_find vn 100000 u v).2.1)))), (a2, .inl (cI, 1575, .inl (dF ((sr_find vn 100000 u v).2.1)))), (a3, .inl (cI, 1575, .inl (dT ((sr_find vn 100000 u v).2.1)))), (a4, .inl (cI, 3060, .inl (dK ((sr_find vn 100000 u v).2.1)))), (b, .inr (2, [.ref b1, .ref b2, .int (nI (sn (sr_find vn 100000 u v).2.2)), .int (sh (sr_find vn 100000 u v).2.2)])), (b1, .inl (cI, 10, .inl (sT (sr_find vn 100000 u v).2.2))), (b2, .inl (cI, 10, .inl (sR (sr_find vn 100000 u v).2.2)))]) (wi := []) (wo := []) (As := [.int (sh (sr_find vn 100000 u v).2.2)]) (rest := [.ref h]) ⟨hx, hb, hml, hown, hts⟩ [] (k_L_opposite l D ((sh (sr_find vn 100000 u v).2.2))) (va_cwS 1 hts v_C_97 rfl rfl rfl (by decide +kernel) ⟨Nat.le_of_ble_eq_true rfl, Nat.le_of_ble_eq_true rfl⟩) ⟨rfl, rfl, rfl, rfl, by decide⟩ rfl hK hP hD hS hA rfl hl.1 (Nat.le_of_ble_eq_true rfl) d_C_models_33 ⟨Nat.le_of_ble_eq_true rfl, Nat.le_of_ble_eq_true rfl⟩ (fun H locs hP hD hS => ?_)
        have hP : va_P D cls_ [(q, .inr (3, [.ref h, .ref b, .ref g, .ref qa, .int (nI 0), .int (nI vn), .int (nI kn), .int tm, .int (nI tn), .int 0, .int 0])), (qa, .inl (cI, 10, .inl (am))), (g, .inr (0, [.int f0])), (h, .inr (1, [.ref a1, .ref a2, .ref a3, .ref a4, .int (nI (dz ((sr_find vn 100000 u v).2.1))), .int (nI (dl ((sr_find vn 100000 u v).2.1))), .int (nI (dO ((sr_find vn 100000 u v).2.1)))])), (a1, .inl (cI, 1575, .inl (dC ((sr_find vn 100000 u v).2.1)))), (a2, .inl (cI, 1575, .inl (dF ((sr_find vn 100000 u v).2.1)))), (a3, .inl (cI, 1575, .inl (dT ((sr_find vn 100000 u v).2.1)))), (a4, .inl (cI, 3060, .inl (dK ((sr_find vn 100000 u v).2.1)))), (b, .inr (2, [.ref b1, .ref b2, .int (nI (sn (sr_find vn 100000 u v).2.2)), .int (sh (sr_find vn 100000 u v).2.2)])), (b1, .inl (cI, 10, .inl (sT (sr_find vn 100000 u v).2.2))), (b2, .inl (cI, 10, .inl (sR (sr_find vn 100000 u v).2.2)))] H := hP
        have hD : va_D A [(q, .inr (3, [.ref h, .ref b, .ref g, .ref qa, .int (nI 0), .int (nI vn), .int (nI kn), .int tm, .int (nI tn), .int 0, .int 0])), (qa, .inl (cI, 10, .inl (am))), (g, .inr (0, [.int f0])), (h, .inr (1, [.ref a1, .ref a2, .ref a3, .ref a4, .int (nI (dz ((sr_find vn 100000 u v).2.1))), .int (nI (dl ((sr_find vn 100000 u v).2.1))), .int (nI (dO ((sr_find vn 100000 u v).2.1)))])), (a1, .inl (cI, 1575, .inl (dC ((sr_find vn 100000 u v).2.1)))), (a2, .inl (cI, 1575, .inl (dF ((sr_find vn 100000 u v).2.1)))), (a3, .inl (cI, 1575, .inl (dT ((sr_find vn 100000 u v).2.1)))), (a4, .inl (cI, 3060, .inl (dK ((sr_find vn 100000 u v).2.1)))), (b, .inr (2, [.ref b1, .ref b2, .int (nI (sn (sr_find vn 100000 u v).2.2)), .int (sh (sr_find vn 100000 u v).2.2)])), (b1, .inl (cI, 10, .inl (sT (sr_find vn 100000 u v).2.2))), (b2, .inl (cI, 10, .inl (sR (sr_find vn 100000 u v).2.2)))] := hD
        refine CTv_V (isC := [3, 4, 5, 6, 7]) (isR := [0, 1, 2, 8, 9, 10]) (wr := [(q, .inr (3, [.ref h, .ref b, .ref g, .ref qa, .int (nI 0), .int (nI vn), .int (nI kn), .int tm, .int (nI tn), .int 0, .int 0])), (qa, .inl (cI, 10, .inl (am))), (g, .inr (0, [.int f0])), (b, .inr (2, [.ref b1, .ref b2, .int (nI (sn (sr_find vn 100000 u v).2.2)), .int (sh (sr_find vn 100000 u v).2.2)])), (b1, .inl (cI, 10, .inl (sT (sr_find vn 100000 u v).2.2))), (b2, .inl (cI, 10, .inl (sR (sr_find vn 100000 u v).2.2)))]) (wi := [(h, .inr (1, [.ref a1, .ref a2, .ref a3, .ref a4, .int (nI (dz ((sr_find vn 100000 u v).2.1))), .int (nI (dl ((sr_find vn 100000 u v).2.1))), .int (nI (dO ((sr_find vn 100000 u v).2.1)))])), (a1, .inl (cI, 1575, .inl (dC ((sr_find vn 100000 u v).2.1)))), (a2, .inl (cI, 1575, .inl (dF ((sr_find vn 100000 u v).2.1)))), (a3, .inl (cI, 1575, .inl (dT ((sr_find vn 100000 u v).2.1)))), (a4, .inl (cI, 3060, .inl (dK ((sr_find vn 100000 u v).2.1))))]) (wo := [(h, .inr (1, [.ref a1, .ref a2, .ref a3, .ref a4, .int (nI (dz (dk_give (sr_find vn 100000 u v).2.1 ((cc_neg ((sh (sr_find vn 100000 u v).2.2))))))), .int (nI (dl (dk_give (sr_find vn 100000 u v).2.1 ((cc_neg ((sh (sr_find vn 100000 u v).2.2))))))), .int (nI (dO (dk_give (sr_find vn 100000 u v).2.1 ((cc_neg ((sh (sr_find vn 100000 u v).2.2)))))))])), (a1, .inl (cI, 1575, .inl (dC (dk_give (sr_find vn 100000 u v).2.1 ((cc_neg ((sh (sr_find vn 100000 u v).2.2)))))))), (a2, .inl (cI, 1575, .inl (dF (dk_give (sr_find vn 100000 u v).2.1 ((cc_neg ((sh (sr_find vn 100000 u v).2.2)))))))), (a3, .inl (cI, 1575, .inl (dT (dk_give (sr_find vn 100000 u v).2.1 ((cc_neg ((sh (sr_find vn 100000 u v).2.2)))))))), (a4, .inl (cI, 3060, .inl (dK (dk_give (sr_find vn 100000 u v).2.1 ((cc_neg ((sh (sr_find vn 100000 u v).2.2))))))))]) (b := h) (As := [.int (cc_neg ((sh (sr_find vn 100000 u v).2.2)))]) (rest := []) ⟨hx, hb, hml, hown, hts⟩ [0] (k_D_give l D cI h a1 a2 a3 a4 (sr_find vn 100000 u v).2.1 hd2 ((cc_neg ((sh (sr_find vn 100000 u v).2.2))))) (cwV 1 hts v_C_68 rfl rfl rfl (by decide +kernel) ⟨Nat.le_of_ble_eq_true rfl, Nat.le_of_ble_eq_true rfl⟩) ⟨rfl, rfl, rfl, rfl, by decide⟩ rfl hK hP hD hS hA (va_recv (ci := 1) hK hP rfl (q0 := 3) rfl) rfl hl.1 (Nat.le_of_ble_eq_true rfl) d_C_models_36 ⟨Nat.le_of_ble_eq_true rfl, Nat.le_of_ble_eq_true rfl⟩ (fun H locs hP hD hS => ?_)
        have hP : va_P D cls_ [(q, .inr (3, [.ref h, .ref b, .ref g, .ref qa, .int (nI 0), .int (nI vn), .int (nI kn), .int tm, .int (nI tn), .int 0, .int 0])), (qa, .inl (cI, 10, .inl (am))), (g, .inr (0, [.int f0])), (b, .inr (2, [.ref b1, .ref b2, .int (nI (sn (sr_find vn 100000 u v).2.2)), .int (sh (sr_find vn 100000 u v).2.2)])), (b1, .inl (cI, 10, .inl (sT (sr_find vn 100000 u v).2.2))), (b2, .inl (cI, 10, .inl (sR (sr_find vn 100000 u v).2.2))), (h, .inr (1, [.ref a1, .ref a2, .ref a3, .ref a4, .int (nI (dz (dk_give (sr_find vn 100000 u v).2.1 ((cc_neg ((sh (sr_find vn 100000 u v).2.2))))))), .int (nI (dl (dk_give (sr_find vn 100000 u v).2.1 ((cc_neg ((sh (sr_find vn 100000 u v).2.2))))))), .int (nI (dO (dk_give (sr_find vn 100000 u v).2.1 ((cc_neg ((sh (sr_find vn 100000 u v).2.2)))))))])), (a1, .inl (cI, 1575, .inl (dC (dk_give (sr_find vn 100000 u v).2.1 ((cc_neg ((sh (sr_find vn 100000 u v).2.2)))))))), (a2, .inl (cI, 1575, .inl (dF (dk_give (sr_find vn 100000 u v).2.1 ((cc_neg ((sh (sr_find vn 100000 u v).2.2)))))))), (a3, .inl (cI, 1575, .inl (dT (dk_give (sr_find vn 100000 u v).2.1 ((cc_neg ((sh (sr_find vn 100000 u v).2.2)))))))), (a4, .inl (cI, 3060, .inl (dK (dk_give (sr_find vn 100000 u v).2.1 ((cc_neg ((sh (sr_find vn 100000 u v).2.2))))))))] H := hP
        have hD : va_D A [(q, .inr (3, [.ref h, .ref b, .ref g, .ref qa, .int (nI 0), .int (nI vn), .int (nI kn), .int tm, .int (nI tn), .int 0, .int 0])), (qa, .inl (cI, 10, .inl (am))), (g, .inr (0, [.int f0])), (b, .inr (2, [.ref b1, .ref b2, .int (nI (sn (sr_find vn 100000 u v).2.2)), .int (sh (sr_find vn 100000 u v).2.2)])), (b1, .inl (cI, 10, .inl (sT (sr_find vn 100000 u v).2.2))), (b2, .inl (cI, 10, .inl (sR (sr_find vn 100000 u v).2.2))), (h, .inr (1, [.ref a1, .ref a2, .ref a3, .ref a4, .int (nI (dz (dk_give (sr_find vn 100000 u v).2.1 ((cc_neg ((sh (sr_find vn 100000 u v).2.2))))))), .int (nI (dl (dk_give (sr_find vn 100000 u v).2.1 ((cc_neg ((sh (sr_find vn 100000 u v).2.2))))))), .int (nI (dO (dk_give (sr_find vn 100000 u v).2.1 ((cc_neg ((sh (sr_find vn 100000 u v).2.2)))))))])), (a1, .inl (cI, 1575, .inl (dC (dk_give (sr_find vn 100000 u v).2.1 ((cc_neg ((sh (sr_find vn 100000 u v).2.2)))))))), (a2, .inl (cI, 1575, .inl (dF (dk_give (sr_find vn 100000 u v).2.1 ((cc_neg ((sh (sr_find vn 100000 u v).2.2)))))))), (a3, .inl (cI, 1575, .inl (dT (dk_give (sr_find vn 100000 u v).2.1 ((cc_neg ((sh (sr_find vn 100000 u v).2.2)))))))), (a4, .inl (cI, 3060, .inl (dK (dk_give (sr_find vn 100000 u v).2.1 ((cc_neg ((sh (sr_find vn 100000 u v).2.2))))))))] := hD
        refine lv_goto (tgt := 6) hx hb d_C_models_39 rfl ?_
        obtain ⟨t2, L2, hF2⟩ := next_more hvn (show g0 + j ≤ 550 by omega) hF (it1 hc16)
        exact ih (j + 1) (sr_find vn 100000 u v).2.2 (dk_give (sr_find vn 100000 u v).2.1 (cc_neg (sh (sr_find vn 100000 u v).2.2))) t2 L2 ls H locs (by omega) hF2 (by rw [← he, md_s, if_pos (it1 hc16)]) hP hD hS (lv_sub hl [0, 1] rfl)
  refine lv_aload_n hx hb d_C_models_0 rfl (lv_at hl 0 rfl) ?_
  refine CTv_V (isC := [0, 1, 2, 3, 4, 5, 6, 7, 8, 9, 10]) (isR := []) (wr := []) (wi := [(q, .inr (3, [.ref h, .ref b, .ref g, .ref qa, .int (nI an), .int (nI vn), .int (nI kn), .int tm, .int (nI tn), .int hm, .int mo])), (qa, .inl (cI, 10, .inl (am))), (g, .inr (0, [.int f0])), (b, .inr (2, [.ref b1, .ref b2, .int (nI (sn s)), .int (sh s)])), (b1, .inl (cI, 10, .inl (sT s))), (b2, .inl (cI, 10, .inl (sR s))), (h, .inr (1, [.ref a1, .ref a2, .ref a3, .ref a4, .int (nI (dz d)), .int (nI (dl d)), .int (nI (dO d))])), (a1, .inl (cI, 1575, .inl (dC d))), (a2, .inl (cI, 1575, .inl (dF d))), (a3, .inl (cI, 1575, .inl (dT d))), (a4, .inl (cI, 3060, .inl (dK d)))]) (wo := [(q, .inr (3, [.ref h, .ref b, .ref g, .ref qa, .int (nI 0), .int (nI vn), .int (nI kn), .int tm, .int (nI tn), .int 0, .int 0])), (qa, .inl (cI, 10, .inl (am))), (g, .inr (0, [.int f0])), (b, .inr (2, [.ref b1, .ref b2, .int (nI (sn ((sT s, sR s, 0, 0)))), .int (sh ((sT s, sR s, 0, 0)))])), (b1, .inl (cI, 10, .inl (sT ((sT s, sR s, 0, 0))))), (b2, .inl (cI, 10, .inl (sR ((sT s, sR s, 0, 0))))), (h, .inr (1, [.ref a1, .ref a2, .ref a3, .ref a4, .int (nI (dz ((gv am an 0 d)))), .int (nI (dl ((gv am an 0 d)))), .int (nI (dO ((gv am an 0 d))))])), (a1, .inl (cI, 1575, .inl (dC ((gv am an 0 d))))), (a2, .inl (cI, 1575, .inl (dF ((gv am an 0 d))))), (a3, .inl (cI, 1575, .inl (dT ((gv am an 0 d))))), (a4, .inl (cI, 3060, .inl (dK ((gv am an 0 d)))))]) (b := q) (As := []) (rest := []) ⟨hx, hb, hml, hown, hts⟩ [0] (k_C_openQuestion l D cI q qa g b b1 b2 h a1 a2 a3 a4 am an vn kn tm tn hm mo f0 s d han hs hd) (cwV 0 hts v_C_76 rfl rfl rfl (by decide +kernel) ⟨Nat.le_of_ble_eq_true rfl, Nat.le_of_ble_eq_true rfl⟩) ⟨rfl, rfl, rfl, rfl, by decide⟩ rfl hK hP hD hS hA (va_recv (ci := 3) hK hP rfl (q0 := 0) rfl) rfl hl.1 (Nat.le_of_ble_eq_true rfl) d_C_models_1 ⟨Nat.le_of_ble_eq_true rfl, Nat.le_of_ble_eq_true rfl⟩ (fun H locs hP hD hS => ?_)
  have hP : va_P D cls_ [(q, .inr (3, [.ref h, .ref b, .ref g, .ref qa, .int (nI 0), .int (nI vn), .int (nI kn), .int tm, .int (nI tn), .int 0, .int 0])), (qa, .inl (cI, 10, .inl (am))), (g, .inr (0, [.int f0])), (b, .inr (2, [.ref b1, .ref b2, .int (nI (sn ((sT s, sR s, 0, 0)))), .int (sh ((sT s, sR s, 0, 0)))])), (b1, .inl (cI, 10, .inl (sT ((sT s, sR s, 0, 0))))), (b2, .inl (cI, 10, .inl (sR ((sT s, sR s, 0, 0))))), (h, .inr (1, [.ref a1, .ref a2, .ref a3, .ref a4, .int (nI (dz ((gv am an 0 d)))), .int (nI (dl ((gv am an 0 d)))), .int (nI (dO ((gv am an 0 d))))])), (a1, .inl (cI, 1575, .inl (dC ((gv am an 0 d))))), (a2, .inl (cI, 1575, .inl (dF ((gv am an 0 d))))), (a3, .inl (cI, 1575, .inl (dT ((gv am an 0 d))))), (a4, .inl (cI, 3060, .inl (dK ((gv am an 0 d)))))] H := hP
  have hD : va_D A [(q, .inr (3, [.ref h, .ref b, .ref g, .ref qa, .int (nI 0), .int (nI vn), .int (nI kn), .int tm, .int (nI tn), .int 0, .int 0])), (qa, .inl (cI, 10, .inl (am))), (g, .inr (0, [.int f0])), (b, .inr (2, [.ref b1, .ref b2, .int (nI (sn ((sT s, sR s, 0, 0)))), .int (sh ((sT s, sR s, 0, 0)))])), (b1, .inl (cI, 10, .inl (sT ((sT s, sR s, 0, 0))))), (b2, .inl (cI, 10, .inl (sR ((sT s, sR s, 0, 0))))), (h, .inr (1, [.ref a1, .ref a2, .ref a3, .ref a4, .int (nI (dz ((gv am an 0 d)))), .int (nI (dl ((gv am an 0 d)))), .int (nI (dO ((gv am an 0 d))))])), (a1, .inl (cI, 1575, .inl (dC ((gv am an 0 d))))), (a2, .inl (cI, 1575, .inl (dF ((gv am an 0 d))))), (a3, .inl (cI, 1575, .inl (dT ((gv am an 0 d))))), (a4, .inl (cI, 3060, .inl (dK ((gv am an 0 d)))))] := hD
  refine lv_iconst (v := 0) hx hb d_C_models_4 (by decide) ?_
  refine lv_istore_n (lv' := [(1, .int 0), (0, .ref q)]) hx hb d_C_models_5 rfl hl (by decide) rfl (fun ls hl => ?_)
  exact loop 40 0 (sT s, sR s, 0, 0) (gv am an 0 d) t 0 ls H locs (by omega) hFI hT hP hD hS (lv_sub hl [0, 1] rfl)
set_option maxHeartbeats 4000000 in
set_option maxRecDepth 100000 in
theorem k_C_count (l : Launch) (D : va_G) (cI : ClassId) (q qa g b b1 b2 h a1 a2 a3 a4 : Nat) (am : Nat → Int32) (an vn kn : Nat) (tm : Int32) (tn : Nat) (hm mo f0 : Int32) (s : SS) (d : DS) (x : Int32) : KTi l y_C_count c_C_count 2 .int { frames := 1, cells := 0, slots := 0, locals := 20 } D [(cI, .int)] [.ref q, .int x] (wC cI q qa g b b1 b2 h a1 a2 a3 a4 am an vn kn tm tn hm mo f0 s d) (cnt an vn kn tn hm f0 x) (wC cI q qa g b b1 b2 h a1 a2 a3 a4 am an vn kn tm tn hm mo f0 s d) := by
  refine KTi_of (own := R_C) (by decide +kernel) rfl (Nat.le_of_ble_eq_true rfl) (vp_nar_int _) ?_
  intro p e st m below meth c A ls Q hx hb hml hts hown hK hP hD hS hA hl fin
  refine lv_iload_n hx hb d_C_count_0 rfl (lv_at hl 1 rfl) ?_
  by_cases hx0 : x = 0
  · subst hx0
    refine lv_tableIn (tgt := 40) (off := 39) hx hb d_C_count_1 (by decide +kernel) (by decide +kernel) (by decide +kernel) rfl ?_
    refine lv_aload_n hx hb d_C_count_40 rfl (lv_at hl 0 rfl) ?_
    refine va_get (D := D) (ci := 3) (v := .int (nI vn)) (C := R_C) (T := T_C) (N := 11) hx hb hts u_C hown hK hP 0 rfl rfl 5 (by decide) (hts _ f_C_34) (fun _ h9 => h9) rfl d_C_count_41 ?_
    exact fin _ _ _ _ _ hP hD hS (rfl) d_C_count_44
  by_cases hx1 : x = 1
  · subst hx1
    refine lv_tableIn (tgt := 45) (off := 44) hx hb d_C_count_1 (by decide +kernel) (by decide +kernel) (by decide +kernel) rfl ?_
    refine lv_aload_n hx hb d_C_count_45 rfl (lv_at hl 0 rfl) ?_
    refine va_get (D := D) (ci := 3) (v := .int (nI kn)) (C := R_C) (T := T_C) (N := 11) hx hb hts u_C hown hK hP 0 rfl rfl 6 (by decide) (hts _ f_C_63) (fun _ h9 => h9) rfl d_C_count_46 ?_
    exact fin _ _ _ _ _ hP hD hS (rfl) d_C_count_49
  by_cases hx2 : x = 2
  · subst hx2
    refine lv_tableIn (tgt := 50) (off := 49) hx hb d_C_count_1 (by decide +kernel) (by decide +kernel) (by decide +kernel) rfl ?_
    refine lv_aload_n hx hb d_C_count_50 rfl (lv_at hl 0 rfl) ?_
    refine va_get (D := D) (ci := 3) (v := .int (nI tn)) (C := R_C) (T := T_C) (N := 11) hx hb hts u_C hown hK hP 0 rfl rfl 8 (by decide) (hts _ f_C_49) (fun _ h9 => h9) rfl d_C_count_51 ?_
    exact fin _ _ _ _ _ hP hD hS (rfl) d_C_count_54
  by_cases hx3 : x = 3
  · subst hx3
    refine lv_tableIn (tgt := 55) (off := 54) hx hb d_C_count_1 (by decide +kernel) (by decide +kernel) (by decide +kernel) rfl ?_
    refine lv_aload_n hx hb d_C_count_55 rfl (lv_at hl 0 rfl) ?_
    refine va_get (D := D) (ci := 3) (v := .int (nI an)) (C := R_C) (T := T_C) (N := 11) hx hb hts u_C hown hK hP 0 rfl rfl 4 (by decide) (hts _ f_C_71) (fun _ h9 => h9) rfl d_C_count_56 ?_
    exact fin _ _ _ _ _ hP hD hS (rfl) d_C_count_59
  by_cases hx4 : x = 4
  · subst hx4
    refine lv_tableIn (tgt := 60) (off := 59) hx hb d_C_count_1 (by decide +kernel) (by decide +kernel) (by decide +kernel) rfl ?_
    refine lv_aload_n hx hb d_C_count_60 rfl (lv_at hl 0 rfl) ?_
    refine va_get (D := D) (ci := 3) (v := .int hm) (C := R_C) (T := T_C) (N := 11) hx hb hts u_C hown hK hP 0 rfl rfl 9 (by decide) (hts _ f_C_83) (fun _ h9 => h9) rfl d_C_count_61 ?_
    refine lv_if_eq (tgt := 71) hx hb d_C_count_64 rfl (fun hc64 => ?_) (fun hc64 => ?_)
    · refine lv_iconst (v := 0) hx hb d_C_count_71 (by decide) ?_
      exact fin _ _ _ _ _ hP hD hS (by show _ = (if hm = 0 then 0 else 1); rw [if_pos hc64]) d_C_count_72
    · refine lv_iconst (v := 1) hx hb d_C_count_67 (by decide) ?_
      refine lv_goto (tgt := 72) hx hb d_C_count_68 rfl ?_
      exact fin _ _ _ _ _ hP hD hS (by show _ = (if hm = 0 then 0 else 1); rw [if_neg hc64]) d_C_count_72
  by_cases hx5 : x = 5
  · subst hx5
    refine lv_tableIn (tgt := 73) (off := 72) hx hb d_C_count_1 (by decide +kernel) (by decide +kernel) (by decide +kernel) rfl ?_
    refine lv_aload_n hx hb d_C_count_73 rfl (lv_at hl 0 rfl) ?_
    refine va_get (D := D) (ci := 3) (v := .ref g) (C := R_C) (T := T_C) (N := 11) hx hb hts u_C hown hK hP 0 rfl rfl 2 (by decide) (hts _ f_C_26) (fun _ h9 => h9) rfl d_C_count_74 ?_
    refine CTi_V (isC := [2]) (isR := [0, 1, 3, 4, 5, 6, 7, 8, 9, 10]) (wr := [(q, .inr (3, [.ref h, .ref b, .ref g, .ref qa, .int (nI an), .int (nI vn), .int (nI kn), .int tm, .int (nI tn), .int hm, .int mo])), (qa, .inl (cI, 10, .inl (am))), (b, .inr (2, [.ref b1, .ref b2, .int (nI (sn s)), .int (sh s)])), (b1, .inl (cI, 10, .inl (sT s))), (b2, .inl (cI, 10, .inl (sR s))), (h, .inr (1, [.ref a1, .ref a2, .ref a3, .ref a4, .int (nI (dz d)), .int (nI (dl d)), .int (nI (dO d))])), (a1, .inl (cI, 1575, .inl (dC d))), (a2, .inl (cI, 1575, .inl (dF d))), (a3, .inl (cI, 1575, .inl (dT d))), (a4, .inl (cI, 3060, .inl (dK d)))]) (wi := [(g, .inr (0, [.int f0]))]) (wo := [(g, .inr (0, [.int f0]))]) (b := g) (As := []) (rest := []) ⟨hx, hb, hml, hown, hts⟩ [0] (k_H_faults l D cI g f0) (cwV 0 hts v_C_110 rfl rfl rfl (by decide +kernel) ⟨Nat.le_of_ble_eq_true rfl, Nat.le_of_ble_eq_true rfl⟩) ⟨rfl, rfl, rfl, rfl, by decide⟩ rfl hK hP hD hS hA (va_recv (ci := 0) hK hP rfl (q0 := 2) rfl) rfl hl.1 (Nat.le_of_ble_eq_true rfl) d_C_count_77 ⟨Nat.le_of_ble_eq_true rfl, Nat.le_of_ble_eq_true rfl⟩ (fun H locs hP hD hS => ?_)
    have hP : va_P D cls_ [(q, .inr (3, [.ref h, .ref b, .ref g, .ref qa, .int (nI an), .int (nI vn), .int (nI kn), .int tm, .int (nI tn), .int hm, .int mo])), (qa, .inl (cI, 10, .inl (am))), (b, .inr (2, [.ref b1, .ref b2, .int (nI (sn s)), .int (sh s)])), (b1, .inl (cI, 10, .inl (sT s))), (b2, .inl (cI, 10, .inl (sR s))), (h, .inr (1, [.ref a1, .ref a2, .ref a3, .ref a4, .int (nI (dz d)), .int (nI (dl d)), .int (nI (dO d))])), (a1, .inl (cI, 1575, .inl (dC d))), (a2, .inl (cI, 1575, .inl (dF d))), (a3, .inl (cI, 1575, .inl (dT d))), (a4, .inl (cI, 3060, .inl (dK d))), (g, .inr (0, [.int f0]))] H := hP
    have hD : va_D A [(q, .inr (3, [.ref h, .ref b, .ref g, .ref qa, .int (nI an), .int (nI vn), .int (nI kn), .int tm, .int (nI tn), .int hm, .int mo])), (qa, .inl (cI, 10, .inl (am))), (b, .inr (2, [.ref b1, .ref b2, .int (nI (sn s)), .int (sh s)])), (b1, .inl (cI, 10, .inl (sT s))), (b2, .inl (cI, 10, .inl (sR s))), (h, .inr (1, [.ref a1, .ref a2, .ref a3, .ref a4, .int (nI (dz d)), .int (nI (dl d)), .int (nI (dO d))])), (a1, .inl (cI, 1575, .inl (dC d))), (a2, .inl (cI, 1575, .inl (dF d))), (a3, .inl (cI, 1575, .inl (dT d))), (a4, .inl (cI, 3060, .inl (dK d))), (g, .inr (0, [.int f0]))] := hD
    have hP := hP.sub (ws' := [(q, .inr (3, [.ref h, .ref b, .ref g, .ref qa, .int (nI an), .int (nI vn), .int (nI kn), .int tm, .int (nI tn), .int hm, .int mo])), (qa, .inl (cI, 10, .inl (am))), (g, .inr (0, [.int f0])), (b, .inr (2, [.ref b1, .ref b2, .int (nI (sn s)), .int (sh s)])), (b1, .inl (cI, 10, .inl (sT s))), (b2, .inl (cI, 10, .inl (sR s))), (h, .inr (1, [.ref a1, .ref a2, .ref a3, .ref a4, .int (nI (dz d)), .int (nI (dl d)), .int (nI (dO d))])), (a1, .inl (cI, 1575, .inl (dC d))), (a2, .inl (cI, 1575, .inl (dF d))), (a3, .inl (cI, 1575, .inl (dT d))), (a4, .inl (cI, 3060, .inl (dK d)))]) [0, 1, 10, 2, 3, 4, 5, 6, 7, 8, 9] rfl
    have hD := hD.sub (ws' := [(q, .inr (3, [.ref h, .ref b, .ref g, .ref qa, .int (nI an), .int (nI vn), .int (nI kn), .int tm, .int (nI tn), .int hm, .int mo])), (qa, .inl (cI, 10, .inl (am))), (g, .inr (0, [.int f0])), (b, .inr (2, [.ref b1, .ref b2, .int (nI (sn s)), .int (sh s)])), (b1, .inl (cI, 10, .inl (sT s))), (b2, .inl (cI, 10, .inl (sR s))), (h, .inr (1, [.ref a1, .ref a2, .ref a3, .ref a4, .int (nI (dz d)), .int (nI (dl d)), .int (nI (dO d))])), (a1, .inl (cI, 1575, .inl (dC d))), (a2, .inl (cI, 1575, .inl (dF d))), (a3, .inl (cI, 1575, .inl (dT d))), (a4, .inl (cI, 3060, .inl (dK d)))]) [0, 1, 10, 2, 3, 4, 5, 6, 7, 8, 9] (by decide) rfl
    exact fin _ _ _ _ _ hP hD hS (rfl) d_C_count_80
  refine lv_tableOut (tgt := 81) hx hb d_C_count_1 (sw_out hx0 hx1 hx2 hx3 hx4 hx5) rfl ?_
  refine lv_iconst (v := (-1)) hx hb d_C_count_81 (by decide) ?_
  exact fin _ _ _ _ _ hP hD hS ((cnt_out hx0 hx1 hx2 hx3 hx4 hx5).symm) d_C_count_82
end
section
/-! Part 35: the reference ClauseCourtModel, by program (wip/whole/gen_model.py) -/
abbrev wM (cZ : ClassId) (m0 ma : Nat) (th : Int32) (vn kn tn an : Nat) (mo tt tf mt mf : Int32) (io : Nat → Int32) (mn : Nat) : va_W := [(m0, .inr (4, [.int th, .int (nI vn), .int (nI kn), .int (nI tn), .int (nI an), .int mo, .int tt, .int tf, .int mt, .int mf, .ref ma, .int (nI mn)])), (ma, .inl (cZ, 1024, .inl io))]
abbrev LOK (vn : Nat) (x : Int32) : Prop := ¬ x = 0 ∧ -(nI vn) ≤ x ∧ x ≤ nI vn
/-- isOut behind a close that has come to x -/
def clo (io : Nat → Int32) (tt tf : Int32) (x : Nat) : Nat → Int32 := fun j => if j < x ∧ nI j &&& tt = 0 ∧ (nI j ^^^ (-1)) &&& tf = 0 then 1 else io j
theorem clo_0 (io : Nat → Int32) (tt tf : Int32) : clo io tt tf 0 = io := funext fun j => if_neg (fun h => absurd h.1 (by omega))
theorem clo_t {io : Nat → Int32} {tt tf : Int32} {x : Nat} (h : nI x &&& tt = 0 ∧ (nI x ^^^ (-1)) &&& tf = 0) : upd (clo io tt tf x) x (vp_nar .boolean 1) = clo io tt tf (x + 1) := by
  funext j
  by_cases e : j = x
  · subst e
    rw [pk_us]
    exact (if_pos ⟨by omega, h⟩).symm
  · rw [pk_un e]
    unfold clo
    by_cases c : j < x ∧ nI j &&& tt = 0 ∧ (nI j ^^^ (-1)) &&& tf = 0
    · rw [if_pos c, if_pos ⟨by omega, c.2⟩]
    · rw [if_neg c, if_neg (fun h2 => c ⟨by omega, h2.2⟩)]
theorem clo_f {io : Nat → Int32} {tt tf : Int32} {x : Nat} (h : ¬ (nI x &&& tt = 0 ∧ (nI x ^^^ (-1)) &&& tf = 0)) : clo io tt tf x = clo io tt tf (x + 1) := by
  funext j
  unfold clo
  by_cases c : j < x ∧ nI j &&& tt = 0 ∧ (nI j ^^^ (-1)) &&& tf = 0
  · rw [if_pos c, if_pos ⟨by omega, c.2⟩]
  · rw [if_neg c, if_neg (fun h2 => by
      by_cases e : j = x
      · subst e; exact h h2.2
      · exact c ⟨by omega, h2.2⟩)]
theorem nx_or (a b : Nat) : nI a ||| nI b = nI (a ||| b) := by
  apply Int32.toBitVec_inj.1
  show BitVec.ofNat 32 a ||| BitVec.ofNat 32 b = BitVec.ofNat 32 (a ||| b)
  apply BitVec.eq_of_getLsbD_eq
  intro i hi
  simp [hi]
theorem val_step {j x v : Nat} (hj : j < 10) (hx : x < 1024) (hv : v < 512) : ((nI v <<< ((1 : Int32) &&& 31)) ||| ((nI x >>> (nI j &&& 31)) &&& 1)) = nI (2 * v + (x / 2 ^ j) % 2) := by
  have h1 : nI v <<< ((1 : Int32) &&& 31) = nI (v * 2 ^ 1) := pk_shlN _ 1 (by decide +kernel) (by omega)
  have h2 : nI x >>> (nI j &&& 31) = nI (x / 2 ^ j) := pk_shrN (by omega) _ j (s_l j (by omega))
  have hle : x / 2 ^ j ≤ x := Nat.div_le_self _ _
  have h3 : nI (x / 2 ^ j) &&& 1 = nI (x / 2 ^ j % 2 ^ 1) := pk_andN (by omega) 1 (by decide +kernel)
  rw [h1, h2, h3, nx_or]
  congr 1
  have h4 := Nat.two_pow_add_eq_or_of_lt (i := 1) (b := x / 2 ^ j % 2 ^ 1) (Nat.mod_lt _ (by omega)) v
  rw [Nat.mul_comm v (2 ^ 1), ← h4]
theorem rv_1024 {x n : Nat} (h : n ≤ 10) : rv x n < 1024 := Nat.lt_of_lt_of_le (rv_lt x n) (show 2 ^ n ≤ 2 ^ 10 from Nat.pow_le_pow_right (by omega) h)
theorem pw_le {n : Nat} (h : n ≤ 10) : 2 ^ n ≤ 1024 := show 2 ^ n ≤ 2 ^ 10 from Nat.pow_le_pow_right (by omega) h
theorem sh1 {n : Nat} (h : n ≤ 10) : (1 : Int32) <<< (nI n &&& 31) = nI (2 ^ n) := (by decide +kernel : ∀ n, n < 11 → (1 : Int32) <<< (nI n &&& 31) = nI (2 ^ n)) n (by omega)
def itv (y v : Int32) : Int32 := if (if (v >>> (((if 0 ≤ y then y else -y) - 1) &&& 31)) &&& 1 = 0 then 0 else 1) = (if 0 < y then (1 : Int32) else 0) then 1 else 0
def rmB (io : Nat → Int32) (mt mf : Int32) (v : Nat) : Bool := decide (io v = 0) && (decide (nI v &&& mt = mt) && decide (nI v &&& mf = 0))
theorem rmB_iff {io : Nat → Int32} {mt mf : Int32} {v : Nat} : rmB io mt mf v = true ↔ io v = 0 ∧ nI v &&& mt = mt ∧ nI v &&& mf = 0 := by
  unfold rmB
  rw [Bool.and_eq_true, Bool.and_eq_true, decide_eq_true_eq, decide_eq_true_eq, decide_eq_true_eq]
def slv (P : Nat → Bool) : Nat → Nat → Int32
  | 0, _ => -1
  | k + 1, x => if P x = true then nI x else slv P k (x + 1)
theorem slv_s (P : Nat → Bool) (k x : Nat) : slv P (k + 1) x = if P x = true then nI x else slv P k (x + 1) := rfl
def fol (P : Nat → Bool) (T : Nat → Int32) : Nat → Nat → Int32 → Int32
  | 0, _, y => y
  | k + 1, x, y => fol P T k (x + 1) (if P x = true ∧ T x = 0 then 0 else y)
theorem fol_s (P : Nat → Bool) (T : Nat → Int32) (k x : Nat) (y : Int32) : fol P T (k + 1) x y = fol P T k (x + 1) (if P x = true ∧ T x = 0 then 0 else y) := rfl
theorem fol_01 {P : Nat → Bool} {T : Nat → Int32} : ∀ (k x : Nat) {y : Int32}, y = 0 ∨ y = 1 → fol P T k x y = 0 ∨ fol P T k x y = 1 := by
  intro k
  induction k with
  | zero => intro x y h; exact h
  | succ k ih =>
    intro x y h
    rw [fol_s]
    refine ih (x + 1) ?_
    split
    · exact Or.inl rfl
    · exact h
theorem fol_nar {P : Nat → Bool} {T : Nat → Int32} {k x : Nat} {y : Int32} (h : y = 0 ∨ y = 1) : narrow .boolean (.int (fol P T k x y)) = .int (fol P T k x y) := by
  rcases fol_01 (P := P) (T := T) k x h with e | e <;> rw [e] <;> decide +kernel
def mol (P : Nat → Bool) : Nat → Nat → Nat → Nat
  | 0, _, c => c
  | k + 1, x, c => if 40 ≤ c then c else mol P k (x + 1) (if P x = true then c + 1 else c)
theorem mol_s (P : Nat → Bool) (k x c : Nat) : mol P (k + 1) x c = if 40 ≤ c then c else mol P k (x + 1) (if P x = true then c + 1 else c) := rfl
def cntm (an vn kn tn : Nat) (mo x : Int32) : Int32 := if x = 0 then nI vn else if x = 1 then nI kn else if x = 2 then nI tn else if x = 3 then nI an else if x = 4 then (if mo < 0 then 0 else 1) else if x = 5 then 0 else -1
theorem cntm_out {an vn kn tn : Nat} {mo x : Int32} (h0 : ¬ x = 0) (h1 : ¬ x = 1) (h2 : ¬ x = 2) (h3 : ¬ x = 3) (h4 : ¬ x = 4) (h5 : ¬ x = 5) : cntm an vn kn tn mo x = -1 := by
  unfold cntm
  rw [if_neg h0, if_neg h1, if_neg h2, if_neg h3, if_neg h4, if_neg h5]
set_option maxHeartbeats 4000000 in
set_option maxRecDepth 100000 in
theorem k_M_thrown (l : Launch) (D : va_G) (cZ : ClassId) (m0 ma : Nat) (th : Int32) (vn kn tn an : Nat) (mo tt tf mt mf : Int32) (io : Nat → Int32) (mn : Nat) : KTi l y_M_thrown c_M_thrown 1 .int { frames := 0, cells := 0, slots := 0, locals := 0 } D [(cZ, .boolean)] [.ref m0] (wM cZ m0 ma th vn kn tn an mo tt tf mt mf io mn) (th) (wM cZ m0 ma th vn kn tn an mo tt tf mt mf io mn) := by
  refine KTi_of (own := R_M) (by decide +kernel) rfl (Nat.le_of_ble_eq_true rfl) (vp_nar_int _) ?_
  intro p e st m below meth c A ls Q hx hb hml hts hown hK hP hD hS hA hl fin
  refine lv_aload_n hx hb d_M_thrown_0 rfl (lv_at hl 0 rfl) ?_
  refine va_get (D := D) (ci := 4) (v := .int th) (C := R_M) (T := T_M) (N := 12) hx hb hts u_M hown hK hP 0 rfl rfl 0 (by decide) (hts _ f_M_17) (fun _ h9 => h9) rfl d_M_thrown_1 ?_
  exact fin _ _ _ _ _ hP hD hS (rfl) d_M_thrown_4
set_option maxHeartbeats 4000000 in
set_option maxRecDepth 100000 in
theorem k_M_no (l : Launch) (D : va_G) (cZ : ClassId) (m0 ma : Nat) (th : Int32) (vn kn tn an : Nat) (mo tt tf mt mf : Int32) (io : Nat → Int32) (mn : Nat) (x : Int32) : KTi l y_M_no c_M_no 2 .int { frames := 0, cells := 0, slots := 0, locals := 0 } D [(cZ, .boolean)] [.ref m0, .int x] (wM cZ m0 ma th vn kn tn an mo tt tf mt mf io mn) (0) (wM cZ m0 ma x vn kn tn an mo tt tf mt mf io mn) := by
  refine KTi_of (own := R_M) (by decide +kernel) rfl (Nat.le_of_ble_eq_true rfl) (vp_nar_int _) ?_
  intro p e st m below meth c A ls Q hx hb hml hts hown hK hP hD hS hA hl fin
  refine lv_aload_n hx hb d_M_no_0 rfl (lv_at hl 0 rfl) ?_
  refine lv_iload_n hx hb d_M_no_1 rfl (lv_at hl 1 rfl) ?_
  refine va_put (D := D) (ci := 4) (v := .int x) (ty := .int) (C := R_M) (T := T_M) (N := 12) hx hb hts u_M t_M t_M_ok n_M hown hK hP hD hS 0 rfl rfl 0 (by decide) (hts _ f_M_17) (fun _ h9 => h9) rfl (by decide +kernel) rfl rfl (Nat.le_of_ble_eq_true rfl) d_M_no_2 (fun H locs hP hD hS => ?_)
  have hP : va_P D cls_ [(m0, .inr (4, [.int x, .int (nI vn), .int (nI kn), .int (nI tn), .int (nI an), .int mo, .int tt, .int tf, .int mt, .int mf, .ref ma, .int (nI mn)])), (ma, .inl (cZ, 1024, .inl (io)))] H := hP
  have hD : va_D A [(m0, .inr (4, [.int x, .int (nI vn), .int (nI kn), .int (nI tn), .int (nI an), .int mo, .int tt, .int tf, .int mt, .int mf, .ref ma, .int (nI mn)])), (ma, .inl (cZ, 1024, .inl (io)))] := hD
  refine lv_iconst (v := 0) hx hb d_M_no_5 (by decide) ?_
  exact fin _ _ _ _ _ hP hD hS (rfl) d_M_no_6
set_option maxHeartbeats 4000000 in
set_option maxRecDepth 100000 in
theorem k_M_forget (l : Launch) (D : va_G) (cZ : ClassId) (m0 ma : Nat) (th : Int32) (vn kn tn an : Nat) (mo tt tf mt mf : Int32) (io : Nat → Int32) (mn : Nat) : KTv l y_M_forget c_M_forget 1 { frames := 0, cells := 0, slots := 0, locals := 0 } D [(cZ, .boolean)] [.ref m0] (wM cZ m0 ma th vn kn tn an mo tt tf mt mf io mn) (wM cZ m0 ma th vn kn tn 0 mo tt tf 0 0 io mn) := by
  refine KTv_of (own := R_M) (by decide +kernel) rfl (Nat.le_of_ble_eq_true rfl) ?_
  intro p e st m below meth c A ls Q hx hb hml hts hown hK hP hD hS hA hl fin
  refine lv_aload_n hx hb d_M_forget_0 rfl (lv_at hl 0 rfl) ?_
  refine lv_iconst (v := 0) hx hb d_M_forget_1 (by decide) ?_
  refine va_put (D := D) (ci := 4) (v := .int 0) (ty := .int) (C := R_M) (T := T_M) (N := 12) hx hb hts u_M t_M t_M_ok n_M hown hK hP hD hS 0 rfl rfl 4 (by decide) (hts _ f_M_43) (fun _ h9 => h9) rfl (by decide +kernel) rfl rfl (Nat.le_of_ble_eq_true rfl) d_M_forget_2 (fun H locs hP hD hS => ?_)
  have hP : va_P D cls_ [(m0, .inr (4, [.int th, .int (nI vn), .int (nI kn), .int (nI tn), .int 0, .int mo, .int tt, .int tf, .int mt, .int mf, .ref ma, .int (nI mn)])), (ma, .inl (cZ, 1024, .inl (io)))] H := hP
  have hD : va_D A [(m0, .inr (4, [.int th, .int (nI vn), .int (nI kn), .int (nI tn), .int 0, .int mo, .int tt, .int tf, .int mt, .int mf, .ref ma, .int (nI mn)])), (ma, .inl (cZ, 1024, .inl (io)))] := hD
  refine lv_aload_n hx hb d_M_forget_5 rfl (lv_at hl 0 rfl) ?_
  refine lv_iconst (v := 0) hx hb d_M_forget_6 (by decide) ?_
  refine va_put (D := D) (ci := 4) (v := .int 0) (ty := .int) (C := R_M) (T := T_M) (N := 12) hx hb hts u_M t_M t_M_ok n_M hown hK hP hD hS 0 rfl rfl 8 (by decide) (hts _ f_M_46) (fun _ h9 => h9) rfl (by decide +kernel) rfl rfl (Nat.le_of_ble_eq_true rfl) d_M_forget_7 (fun H locs hP hD hS => ?_)
  have hP : va_P D cls_ [(m0, .inr (4, [.int th, .int (nI vn), .int (nI kn), .int (nI tn), .int 0, .int mo, .int tt, .int tf, .int 0, .int mf, .ref ma, .int (nI mn)])), (ma, .inl (cZ, 1024, .inl (io)))] H := hP
  have hD : va_D A [(m0, .inr (4, [.int th, .int (nI vn), .int (nI kn), .int (nI tn), .int 0, .int mo, .int tt, .int tf, .int 0, .int mf, .ref ma, .int (nI mn)])), (ma, .inl (cZ, 1024, .inl (io)))] := hD
  refine lv_aload_n hx hb d_M_forget_10 rfl (lv_at hl 0 rfl) ?_
  refine lv_iconst (v := 0) hx hb d_M_forget_11 (by decide) ?_
  refine va_put (D := D) (ci := 4) (v := .int 0) (ty := .int) (C := R_M) (T := T_M) (N := 12) hx hb hts u_M t_M t_M_ok n_M hown hK hP hD hS 0 rfl rfl 9 (by decide) (hts _ f_M_49) (fun _ h9 => h9) rfl (by decide +kernel) rfl rfl (Nat.le_of_ble_eq_true rfl) d_M_forget_12 (fun H locs hP hD hS => ?_)
  have hP : va_P D cls_ [(m0, .inr (4, [.int th, .int (nI vn), .int (nI kn), .int (nI tn), .int 0, .int mo, .int tt, .int tf, .int 0, .int 0, .ref ma, .int (nI mn)])), (ma, .inl (cZ, 1024, .inl (io)))] H := hP
  have hD : va_D A [(m0, .inr (4, [.int th, .int (nI vn), .int (nI kn), .int (nI tn), .int 0, .int mo, .int tt, .int tf, .int 0, .int 0, .ref ma, .int (nI mn)])), (ma, .inl (cZ, 1024, .inl (io)))] := hD
  exact fin _ _ _ _ hP hD hS d_M_forget_15
set_option maxHeartbeats 4000000 in
set_option maxRecDepth 100000 in
theorem k_M_isLiteral (l : Launch) (D : va_G) (cZ : ClassId) (m0 ma : Nat) (th : Int32) (vn kn tn an : Nat) (mo tt tf mt mf : Int32) (io : Nat → Int32) (mn : Nat) (x : Int32) : KTi l y_M_isLiteral c_M_isLiteral 2 .boolean { frames := 0, cells := 0, slots := 0, locals := 0 } D [(cZ, .boolean)] [.ref m0, .int x] (wM cZ m0 ma th vn kn tn an mo tt tf mt mf io mn) (if LOK vn x then 1 else 0) (wM cZ m0 ma th vn kn tn an mo tt tf mt mf io mn) := by
  refine KTi_of (own := R_M) (by decide +kernel) rfl (Nat.le_of_ble_eq_true rfl) (nar_if _) ?_
  intro p e st m below meth c A ls Q hx hb hml hts hown hK hP hD hS hA hl fin
  refine lv_iload_n hx hb d_M_isLiteral_0 rfl (lv_at hl 1 rfl) ?_
  refine lv_if_eq (tgt := 25) hx hb d_M_isLiteral_1 rfl (fun hc1 => ?_) (fun hc1 => ?_)
  · refine lv_iconst (v := 0) hx hb d_M_isLiteral_25 (by decide) ?_
    exact fin _ _ _ _ _ hP hD hS ((if_neg (fun h => h.1 hc1)).symm) d_M_isLiteral_26
  · refine lv_iload_n hx hb d_M_isLiteral_4 rfl (lv_at hl 1 rfl) ?_
    refine lv_aload_n hx hb d_M_isLiteral_5 rfl (lv_at hl 0 rfl) ?_
    refine va_get (D := D) (ci := 4) (v := .int (nI vn)) (C := R_M) (T := T_M) (N := 12) hx hb hts u_M hown hK hP 0 rfl rfl 1 (by decide) (hts _ f_M_20) (fun _ h9 => h9) rfl d_M_isLiteral_6 ?_
    refine lv_ineg hx hb d_M_isLiteral_9 ?_
    refine lv_icmp_lt (tgt := 25) hx hb d_M_isLiteral_10 rfl (fun hc10 => ?_) (fun hc10 => ?_)
    · refine lv_iconst (v := 0) hx hb d_M_isLiteral_25 (by decide) ?_
      exact fin _ _ _ _ _ hP hD hS ((if_neg (fun h => Int32.not_lt.mpr h.2.1 hc10)).symm) d_M_isLiteral_26
    · refine lv_iload_n hx hb d_M_isLiteral_13 rfl (lv_at hl 1 rfl) ?_
      refine lv_aload_n hx hb d_M_isLiteral_14 rfl (lv_at hl 0 rfl) ?_
      refine va_get (D := D) (ci := 4) (v := .int (nI vn)) (C := R_M) (T := T_M) (N := 12) hx hb hts u_M hown hK hP 0 rfl rfl 1 (by decide) (hts _ f_M_20) (fun _ h9 => h9) rfl d_M_isLiteral_15 ?_
      refine lv_icmp_gt (tgt := 25) hx hb d_M_isLiteral_18 rfl (fun hc18 => ?_) (fun hc18 => ?_)
      · refine lv_iconst (v := 0) hx hb d_M_isLiteral_25 (by decide) ?_
        exact fin _ _ _ _ _ hP hD hS ((if_neg (fun h => Int32.not_lt.mpr h.2.2 hc18)).symm) d_M_isLiteral_26
      · refine lv_iconst (v := 1) hx hb d_M_isLiteral_21 (by decide) ?_
        refine lv_goto (tgt := 26) hx hb d_M_isLiteral_22 rfl ?_
        exact fin _ _ _ _ _ hP hD hS ((if_pos ⟨hc1, Int32.not_lt.mp hc10, Int32.not_lt.mp hc18⟩).symm) d_M_isLiteral_26
set_option maxHeartbeats 4000000 in
set_option maxRecDepth 100000 in
theorem k_M_variable_r (l : Launch) (D : va_G) (cZ : ClassId) (m0 ma : Nat) (th : Int32) (vn kn tn an : Nat) (mo tt tf mt mf : Int32) (io : Nat → Int32) (mn : Nat) (hv : vn = 10) : KTi l y_M_variable c_M_variable 1 .int { frames := 1, cells := 0, slots := 0, locals := 21 } D [(cZ, .boolean)] [.ref m0] (wM cZ m0 ma th vn kn tn an mo tt tf mt mf io mn) (0) (wM cZ m0 ma 1 vn kn tn an mo tt tf mt mf io mn) := by
  refine KTi_of (own := R_M) (by decide +kernel) rfl (Nat.le_of_ble_eq_true rfl) (vp_nar_int _) ?_
  intro p e st m below meth c A ls Q hx hb hml hts hown hK hP hD hS hA hl fin
  refine lv_aload_n hx hb d_M_variable_0 rfl (lv_at hl 0 rfl) ?_
  refine va_get (D := D) (ci := 4) (v := .int (nI vn)) (C := R_M) (T := T_M) (N := 12) hx hb hts u_M hown hK hP 0 rfl rfl 1 (by decide) (hts _ f_M_20) (fun _ h9 => h9) rfl d_M_variable_1 ?_
  refine lv_bipush (v := 10) hx hb d_M_variable_4 (by decide +kernel) ?_
  refine lv_icmp_ne (tgt := 15) hx hb d_M_variable_6 rfl (fun hc6 => absurd (by rw [hv]; rfl) hc6) (fun hc6 => ?_)
  refine lv_aload_n hx hb d_M_variable_9 rfl (lv_at hl 0 rfl) ?_
  refine lv_iconst (v := 1) hx hb d_M_variable_10 (by decide) ?_
  refine CTi_V (isC := [0, 1]) (isR := []) (wr := []) (wi := [(m0, .inr (4, [.int th, .int (nI vn), .int (nI kn), .int (nI tn), .int (nI an), .int mo, .int tt, .int tf, .int mt, .int mf, .ref ma, .int (nI mn)])), (ma, .inl (cZ, 1024, .inl (io)))]) (wo := [(m0, .inr (4, [.int 1, .int (nI vn), .int (nI kn), .int (nI tn), .int (nI an), .int mo, .int tt, .int tf, .int mt, .int mf, .ref ma, .int (nI mn)])), (ma, .inl (cZ, 1024, .inl (io)))]) (b := m0) (As := [.int 1]) (rest := []) ⟨hx, hb, hml, hown, hts⟩ [0] (k_M_no l D cZ m0 ma th vn kn tn an mo tt tf mt mf io mn 1) (cwV 1 hts v_M_23 rfl rfl rfl (by decide +kernel) ⟨Nat.le_of_ble_eq_true rfl, Nat.le_of_ble_eq_true rfl⟩) ⟨rfl, rfl, rfl, rfl, by decide⟩ rfl hK hP hD hS hA (va_recv (ci := 4) hK hP rfl (q0 := 0) rfl) rfl hl.1 (Nat.le_of_ble_eq_true rfl) d_M_variable_11 ⟨Nat.le_of_ble_eq_true rfl, Nat.le_of_ble_eq_true rfl⟩ (fun H locs hP hD hS => ?_)
  have hP : va_P D cls_ [(m0, .inr (4, [.int 1, .int (nI vn), .int (nI kn), .int (nI tn), .int (nI an), .int mo, .int tt, .int tf, .int mt, .int mf, .ref ma, .int (nI mn)])), (ma, .inl (cZ, 1024, .inl (io)))] H := hP
  have hD : va_D A [(m0, .inr (4, [.int 1, .int (nI vn), .int (nI kn), .int (nI tn), .int (nI an), .int mo, .int tt, .int tf, .int mt, .int mf, .ref ma, .int (nI mn)])), (ma, .inl (cZ, 1024, .inl (io)))] := hD
  exact fin _ _ _ _ _ hP hD hS (rfl) d_M_variable_14
set_option maxHeartbeats 4000000 in
set_option maxRecDepth 100000 in
theorem k_M_variable (l : Launch) (D : va_G) (cZ : ClassId) (m0 ma : Nat) (th : Int32) (vn kn tn an : Nat) (mo tt tf mt mf : Int32) (io : Nat → Int32) (mn : Nat) (hv : vn < 10) : KTi l y_M_variable c_M_variable 1 .int { frames := 1, cells := 0, slots := 0, locals := 21 } D [(cZ, .boolean)] [.ref m0] (wM cZ m0 ma th vn kn tn an mo tt tf mt mf io mn) (nI (vn + 1)) (wM cZ m0 ma 0 ((vn + 1)) kn tn an mo tt tf mt mf io mn) := by
  refine KTi_of (own := R_M) (by decide +kernel) rfl (Nat.le_of_ble_eq_true rfl) (vp_nar_int _) ?_
  intro p e st m below meth c A ls Q hx hb hml hts hown hK hP hD hS hA hl fin
  refine lv_aload_n hx hb d_M_variable_0 rfl (lv_at hl 0 rfl) ?_
  refine va_get (D := D) (ci := 4) (v := .int (nI vn)) (C := R_M) (T := T_M) (N := 12) hx hb hts u_M hown hK hP 0 rfl rfl 1 (by decide) (hts _ f_M_20) (fun _ h9 => h9) rfl d_M_variable_1 ?_
  refine lv_bipush (v := 10) hx hb d_M_variable_4 (by decide +kernel) ?_
  refine lv_icmp_ne (tgt := 15) hx hb d_M_variable_6 rfl (fun hc6 => ?_) (fun hc6 => absurd ((nI_eq (b := 10) (by omega) (by decide)).1 hc6) (by omega))
  refine lv_aload_n hx hb d_M_variable_15 rfl (lv_at hl 0 rfl) ?_
  refine lv_iconst (v := 0) hx hb d_M_variable_16 (by decide) ?_
  refine va_put (D := D) (ci := 4) (v := .int 0) (ty := .int) (C := R_M) (T := T_M) (N := 12) hx hb hts u_M t_M t_M_ok n_M hown hK hP hD hS 0 rfl rfl 0 (by decide) (hts _ f_M_17) (fun _ h9 => h9) rfl (by decide +kernel) rfl rfl (Nat.le_of_ble_eq_true rfl) d_M_variable_17 (fun H locs hP hD hS => ?_)
  have hP : va_P D cls_ [(m0, .inr (4, [.int 0, .int (nI vn), .int (nI kn), .int (nI tn), .int (nI an), .int mo, .int tt, .int tf, .int mt, .int mf, .ref ma, .int (nI mn)])), (ma, .inl (cZ, 1024, .inl (io)))] H := hP
  have hD : va_D A [(m0, .inr (4, [.int 0, .int (nI vn), .int (nI kn), .int (nI tn), .int (nI an), .int mo, .int tt, .int tf, .int mt, .int mf, .ref ma, .int (nI mn)])), (ma, .inl (cZ, 1024, .inl (io)))] := hD
  refine lv_aload_n hx hb d_M_variable_20 rfl (lv_at hl 0 rfl) ?_
  refine lv_dup hx hb d_M_variable_21 rfl ?_
  refine va_get (D := D) (ci := 4) (v := .int (nI vn)) (C := R_M) (T := T_M) (N := 12) hx hb hts u_M hown hK hP 0 rfl rfl 1 (by decide) (hts _ f_M_20) (fun _ h9 => h9) rfl d_M_variable_22 ?_
  refine lv_iconst (v := 1) hx hb d_M_variable_25 (by decide) ?_
  refine lv_iadd hx hb d_M_variable_26 ?_
  refine va_put (D := D) (ci := 4) (v := .int ((nI vn) + 1)) (ty := .int) (C := R_M) (T := T_M) (N := 12) hx hb hts u_M t_M t_M_ok n_M hown hK hP hD hS 0 rfl rfl 1 (by decide) (hts _ f_M_20) (fun _ h9 => h9) rfl (by decide +kernel) rfl rfl (Nat.le_of_ble_eq_true rfl) d_M_variable_27 (fun H locs hP hD hS => ?_)
  have hP : va_P D cls_ [(m0, .inr (4, [.int 0, .int ((nI vn) + 1), .int (nI kn), .int (nI tn), .int (nI an), .int mo, .int tt, .int tf, .int mt, .int mf, .ref ma, .int (nI mn)])), (ma, .inl (cZ, 1024, .inl (io)))] H := hP
  have hD : va_D A [(m0, .inr (4, [.int 0, .int ((nI vn) + 1), .int (nI kn), .int (nI tn), .int (nI an), .int mo, .int tt, .int tf, .int mt, .int mf, .ref ma, .int (nI mn)])), (ma, .inl (cZ, 1024, .inl (io)))] := hD
  refine lv_aload_n hx hb d_M_variable_30 rfl (lv_at hl 0 rfl) ?_
  refine va_get (D := D) (ci := 4) (v := .int ((nI vn) + 1)) (C := R_M) (T := T_M) (N := 12) hx hb hts u_M hown hK hP 0 rfl rfl 1 (by decide) (hts _ f_M_20) (fun _ h9 => h9) rfl d_M_variable_31 ?_
  rw [nI_1] at hP hD ⊢
  exact fin _ _ _ _ _ hP hD hS rfl d_M_variable_34
set_option maxHeartbeats 4000000 in
set_option maxRecDepth 100000 in
theorem k_M_literal_b (l : Launch) (D : va_G) (cZ : ClassId) (m0 ma : Nat) (th : Int32) (vn kn tn an : Nat) (mo tt tf mt mf : Int32) (io : Nat → Int32) (mn : Nat) (x : Int32) (hx9 : ¬ LOK vn x) : KTv l y_M_literal c_M_literal 2 { frames := 1, cells := 0, slots := 0, locals := 21 } D [(cZ, .boolean)] [.ref m0, .int x] (wM cZ m0 ma th vn kn tn an mo tt tf mt mf io mn) (wM cZ m0 ma 1 vn kn tn an mo tt tf mt mf io mn) := by
  refine KTv_of (own := R_M) (by decide +kernel) rfl (Nat.le_of_ble_eq_true rfl) ?_
  intro p e st m below meth c A ls Q hx hb hml hts hown hK hP hD hS hA hl fin
  refine lv_aload_n hx hb d_M_literal_0 rfl (lv_at hl 0 rfl) ?_
  refine lv_aload_n hx hb d_M_literal_1 rfl (lv_at hl 0 rfl) ?_
  refine lv_iload_n hx hb d_M_literal_2 rfl (lv_at hl 1 rfl) ?_
  refine CTi_V (isC := [0, 1]) (isR := []) (wr := []) (wi := [(m0, .inr (4, [.int th, .int (nI vn), .int (nI kn), .int (nI tn), .int (nI an), .int mo, .int tt, .int tf, .int mt, .int mf, .ref ma, .int (nI mn)])), (ma, .inl (cZ, 1024, .inl (io)))]) (wo := [(m0, .inr (4, [.int th, .int (nI vn), .int (nI kn), .int (nI tn), .int (nI an), .int mo, .int tt, .int tf, .int mt, .int mf, .ref ma, .int (nI mn)])), (ma, .inl (cZ, 1024, .inl (io)))]) (b := m0) (As := [.int x]) (rest := [.ref m0]) ⟨hx, hb, hml, hown, hts⟩ [0] (k_M_isLiteral l D cZ m0 ma th vn kn tn an mo tt tf mt mf io mn x) (cwV 1 hts v_M_27 rfl rfl rfl (by decide +kernel) ⟨Nat.le_of_ble_eq_true rfl, Nat.le_of_ble_eq_true rfl⟩) ⟨rfl, rfl, rfl, rfl, by decide⟩ rfl hK hP hD hS hA (va_recv (ci := 4) hK hP rfl (q0 := 0) rfl) rfl hl.1 (Nat.le_of_ble_eq_true rfl) d_M_literal_3 ⟨Nat.le_of_ble_eq_true rfl, Nat.le_of_ble_eq_true rfl⟩ (fun H locs hP hD hS => ?_)
  have hP : va_P D cls_ [(m0, .inr (4, [.int th, .int (nI vn), .int (nI kn), .int (nI tn), .int (nI an), .int mo, .int tt, .int tf, .int mt, .int mf, .ref ma, .int (nI mn)])), (ma, .inl (cZ, 1024, .inl (io)))] H := hP
  have hD : va_D A [(m0, .inr (4, [.int th, .int (nI vn), .int (nI kn), .int (nI tn), .int (nI an), .int mo, .int tt, .int tf, .int mt, .int mf, .ref ma, .int (nI mn)])), (ma, .inl (cZ, 1024, .inl (io)))] := hD
  refine lv_if_ne (tgt := 13) hx hb d_M_literal_6 rfl (fun hc6 => absurd (it1 hc6) hx9) (fun hc6 => ?_)
  refine lv_iconst (v := 1) hx hb d_M_literal_9 (by decide) ?_
  refine lv_goto (tgt := 27) hx hb d_M_literal_10 rfl ?_
  refine va_put (D := D) (ci := 4) (v := .int 1) (ty := .int) (C := R_M) (T := T_M) (N := 12) hx hb hts u_M t_M t_M_ok n_M hown hK hP hD hS 0 rfl rfl 0 (by decide) (hts _ f_M_17) (fun _ h9 => h9) rfl (by decide +kernel) rfl rfl (Nat.le_of_ble_eq_true rfl) d_M_literal_27 (fun H locs hP hD hS => ?_)
  have hP : va_P D cls_ [(m0, .inr (4, [.int 1, .int (nI vn), .int (nI kn), .int (nI tn), .int (nI an), .int mo, .int tt, .int tf, .int mt, .int mf, .ref ma, .int (nI mn)])), (ma, .inl (cZ, 1024, .inl (io)))] H := hP
  have hD : va_D A [(m0, .inr (4, [.int 1, .int (nI vn), .int (nI kn), .int (nI tn), .int (nI an), .int mo, .int tt, .int tf, .int mt, .int mf, .ref ma, .int (nI mn)])), (ma, .inl (cZ, 1024, .inl (io)))] := hD
  refine lv_aload_n hx hb d_M_literal_30 rfl (lv_at hl 0 rfl) ?_
  refine va_get (D := D) (ci := 4) (v := .int 1) (C := R_M) (T := T_M) (N := 12) hx hb hts u_M hown hK hP 0 rfl rfl 0 (by decide) (hts _ f_M_17) (fun _ h9 => h9) rfl d_M_literal_31 ?_
  refine lv_if_eq (tgt := 38) hx hb d_M_literal_34 rfl (fun hc34 => absurd hc34 (by decide)) (fun hc34 => ?_)
  exact fin _ _ _ _ hP hD hS d_M_literal_37
set_option maxHeartbeats 4000000 in
set_option maxRecDepth 100000 in
theorem k_M_literal_r (l : Launch) (D : va_G) (cZ : ClassId) (m0 ma : Nat) (th : Int32) (vn kn tn an : Nat) (mo tt tf mt mf : Int32) (io : Nat → Int32) (mn : Nat) (x : Int32) (hx9 : LOK vn x) (ht : tn = 12) : KTv l y_M_literal c_M_literal 2 { frames := 1, cells := 0, slots := 0, locals := 21 } D [(cZ, .boolean)] [.ref m0, .int x] (wM cZ m0 ma th vn kn tn an mo tt tf mt mf io mn) (wM cZ m0 ma 2 vn kn tn an mo tt tf mt mf io mn) := by
  refine KTv_of (own := R_M) (by decide +kernel) rfl (Nat.le_of_ble_eq_true rfl) ?_
  intro p e st m below meth c A ls Q hx hb hml hts hown hK hP hD hS hA hl fin
  refine lv_aload_n hx hb d_M_literal_0 rfl (lv_at hl 0 rfl) ?_
  refine lv_aload_n hx hb d_M_literal_1 rfl (lv_at hl 0 rfl) ?_
  refine lv_iload_n hx hb d_M_literal_2 rfl (lv_at hl 1 rfl) ?_
  refine CTi_V (isC := [0, 1]) (isR := []) (wr := []) (wi := [(m0, .inr (4, [.int th, .int (nI vn), .int (nI kn), .int (nI tn), .int (nI an), .int mo, .int tt, .int tf, .int mt, .int mf, .ref ma, .int (nI mn)])), (ma, .inl (cZ, 1024, .inl (io)))]) (wo := [(m0, .inr (4, [.int th, .int (nI vn), .int (nI kn), .int (nI tn), .int (nI an), .int mo, .int tt, .int tf, .int mt, .int mf, .ref ma, .int (nI mn)])), (ma, .inl (cZ, 1024, .inl (io)))]) (b := m0) (As := [.int x]) (rest := [.ref m0]) ⟨hx, hb, hml, hown, hts⟩ [0] (k_M_isLiteral l D cZ m0 ma th vn kn tn an mo tt tf mt mf io mn x) (cwV 1 hts v_M_27 rfl rfl rfl (by decide +kernel) ⟨Nat.le_of_ble_eq_true rfl, Nat.le_of_ble_eq_true rfl⟩) ⟨rfl, rfl, rfl, rfl, by decide⟩ rfl hK hP hD hS hA (va_recv (ci := 4) hK hP rfl (q0 := 0) rfl) rfl hl.1 (Nat.le_of_ble_eq_true rfl) d_M_literal_3 ⟨Nat.le_of_ble_eq_true rfl, Nat.le_of_ble_eq_true rfl⟩ (fun H locs hP hD hS => ?_)
  have hP : va_P D cls_ [(m0, .inr (4, [.int th, .int (nI vn), .int (nI kn), .int (nI tn), .int (nI an), .int mo, .int tt, .int tf, .int mt, .int mf, .ref ma, .int (nI mn)])), (ma, .inl (cZ, 1024, .inl (io)))] H := hP
  have hD : va_D A [(m0, .inr (4, [.int th, .int (nI vn), .int (nI kn), .int (nI tn), .int (nI an), .int mo, .int tt, .int tf, .int mt, .int mf, .ref ma, .int (nI mn)])), (ma, .inl (cZ, 1024, .inl (io)))] := hD
  refine lv_if_ne (tgt := 13) hx hb d_M_literal_6 rfl (fun hc6 => ?_) (fun hc6 => absurd hx9 (it0 hc6))
  refine lv_aload_n hx hb d_M_literal_13 rfl (lv_at hl 0 rfl) ?_
  refine va_get (D := D) (ci := 4) (v := .int (nI tn)) (C := R_M) (T := T_M) (N := 12) hx hb hts u_M hown hK hP 0 rfl rfl 3 (by decide) (hts _ f_M_31) (fun _ h9 => h9) rfl d_M_literal_14 ?_
  refine lv_bipush (v := 12) hx hb d_M_literal_17 (by decide +kernel) ?_
  refine lv_icmp_ne (tgt := 26) hx hb d_M_literal_19 rfl (fun hc19 => absurd (by rw [ht]; rfl) hc19) (fun hc19 => ?_)
  refine lv_iconst (v := 2) hx hb d_M_literal_22 (by decide) ?_
  refine lv_goto (tgt := 27) hx hb d_M_literal_23 rfl ?_
  refine va_put (D := D) (ci := 4) (v := .int 2) (ty := .int) (C := R_M) (T := T_M) (N := 12) hx hb hts u_M t_M t_M_ok n_M hown hK hP hD hS 0 rfl rfl 0 (by decide) (hts _ f_M_17) (fun _ h9 => h9) rfl (by decide +kernel) rfl rfl (Nat.le_of_ble_eq_true rfl) d_M_literal_27 (fun H locs hP hD hS => ?_)
  have hP : va_P D cls_ [(m0, .inr (4, [.int 2, .int (nI vn), .int (nI kn), .int (nI tn), .int (nI an), .int mo, .int tt, .int tf, .int mt, .int mf, .ref ma, .int (nI mn)])), (ma, .inl (cZ, 1024, .inl (io)))] H := hP
  have hD : va_D A [(m0, .inr (4, [.int 2, .int (nI vn), .int (nI kn), .int (nI tn), .int (nI an), .int mo, .int tt, .int tf, .int mt, .int mf, .ref ma, .int (nI mn)])), (ma, .inl (cZ, 1024, .inl (io)))] := hD
  refine lv_aload_n hx hb d_M_literal_30 rfl (lv_at hl 0 rfl) ?_
  refine va_get (D := D) (ci := 4) (v := .int 2) (C := R_M) (T := T_M) (N := 12) hx hb hts u_M hown hK hP 0 rfl rfl 0 (by decide) (hts _ f_M_17) (fun _ h9 => h9) rfl d_M_literal_31 ?_
  refine lv_if_eq (tgt := 38) hx hb d_M_literal_34 rfl (fun hc34 => absurd hc34 (by decide)) (fun hc34 => ?_)
  exact fin _ _ _ _ hP hD hS d_M_literal_37
set_option maxHeartbeats 4000000 in
set_option maxRecDepth 100000 in
theorem k_M_literal (l : Launch) (D : va_G) (cZ : ClassId) (m0 ma : Nat) (th : Int32) (vn kn tn an : Nat) (mo tt tf mt mf : Int32) (io : Nat → Int32) (mn : Nat) (x : Int32) (hx9 : LOK vn x) (ht : tn < 12) : KTv l y_M_literal c_M_literal 2 { frames := 1, cells := 0, slots := 0, locals := 21 } D [(cZ, .boolean)] [.ref m0, .int x] (wM cZ m0 ma th vn kn tn an mo tt tf mt mf io mn) (wM cZ m0 ma 0 vn kn ((tn + 1)) an mo ((if 0 < x then tt ||| (1 <<< ((x - 1) &&& 31)) else tt)) ((if 0 < x then tf else tf ||| (1 <<< ((-x - 1) &&& 31)))) mt mf io mn) := by
  refine KTv_of (own := R_M) (by decide +kernel) rfl (Nat.le_of_ble_eq_true rfl) ?_
  intro p e st m below meth c A ls Q hx hb hml hts hown hK hP hD hS hA hl fin
  refine lv_aload_n hx hb d_M_literal_0 rfl (lv_at hl 0 rfl) ?_
  refine lv_aload_n hx hb d_M_literal_1 rfl (lv_at hl 0 rfl) ?_
  refine lv_iload_n hx hb d_M_literal_2 rfl (lv_at hl 1 rfl) ?_
  refine CTi_V (isC := [0, 1]) (isR := []) (wr := []) (wi := [(m0, .inr (4, [.int th, .int (nI vn), .int (nI kn), .int (nI tn), .int (nI an), .int mo, .int tt, .int tf, .int mt, .int mf, .ref ma, .int (nI mn)])), (ma, .inl (cZ, 1024, .inl (io)))]) (wo := [(m0, .inr (4, [.int th, .int (nI vn), .int (nI kn), .int (nI tn), .int (nI an), .int mo, .int tt, .int tf, .int mt, .int mf, .ref ma, .int (nI mn)])), (ma, .inl (cZ, 1024, .inl (io)))]) (b := m0) (As := [.int x]) (rest := [.ref m0]) ⟨hx, hb, hml, hown, hts⟩ [0] (k_M_isLiteral l D cZ m0 ma th vn kn tn an mo tt tf mt mf io mn x) (cwV 1 hts v_M_27 rfl rfl rfl (by decide +kernel) ⟨Nat.le_of_ble_eq_true rfl, Nat.le_of_ble_eq_true rfl⟩) ⟨rfl, rfl, rfl, rfl, by decide⟩ rfl hK hP hD hS hA (va_recv (ci := 4) hK hP rfl (q0 := 0) rfl) rfl hl.1 (Nat.le_of_ble_eq_true rfl) d_M_literal_3 ⟨Nat.le_of_ble_eq_true rfl, Nat.le_of_ble_eq_true rfl⟩ (fun H locs hP hD hS => ?_)
  have hP : va_P D cls_ [(m0, .inr (4, [.int th, .int (nI vn), .int (nI kn), .int (nI tn), .int (nI an), .int mo, .int tt, .int tf, .int mt, .int mf, .ref ma, .int (nI mn)])), (ma, .inl (cZ, 1024, .inl (io)))] H := hP
  have hD : va_D A [(m0, .inr (4, [.int th, .int (nI vn), .int (nI kn), .int (nI tn), .int (nI an), .int mo, .int tt, .int tf, .int mt, .int mf, .ref ma, .int (nI mn)])), (ma, .inl (cZ, 1024, .inl (io)))] := hD
  refine lv_if_ne (tgt := 13) hx hb d_M_literal_6 rfl (fun hc6 => ?_) (fun hc6 => absurd hx9 (it0 hc6))
  refine lv_aload_n hx hb d_M_literal_13 rfl (lv_at hl 0 rfl) ?_
  refine va_get (D := D) (ci := 4) (v := .int (nI tn)) (C := R_M) (T := T_M) (N := 12) hx hb hts u_M hown hK hP 0 rfl rfl 3 (by decide) (hts _ f_M_31) (fun _ h9 => h9) rfl d_M_literal_14 ?_
  refine lv_bipush (v := 12) hx hb d_M_literal_17 (by decide +kernel) ?_
  refine lv_icmp_ne (tgt := 26) hx hb d_M_literal_19 rfl (fun hc19 => ?_) (fun hc19 => absurd ((nI_eq (b := 12) (by omega) (by decide)).1 hc19) (by omega))
  refine lv_iconst (v := 0) hx hb d_M_literal_26 (by decide) ?_
  refine va_put (D := D) (ci := 4) (v := .int 0) (ty := .int) (C := R_M) (T := T_M) (N := 12) hx hb hts u_M t_M t_M_ok n_M hown hK hP hD hS 0 rfl rfl 0 (by decide) (hts _ f_M_17) (fun _ h9 => h9) rfl (by decide +kernel) rfl rfl (Nat.le_of_ble_eq_true rfl) d_M_literal_27 (fun H locs hP hD hS => ?_)
  have hP : va_P D cls_ [(m0, .inr (4, [.int 0, .int (nI vn), .int (nI kn), .int (nI tn), .int (nI an), .int mo, .int tt, .int tf, .int mt, .int mf, .ref ma, .int (nI mn)])), (ma, .inl (cZ, 1024, .inl (io)))] H := hP
  have hD : va_D A [(m0, .inr (4, [.int 0, .int (nI vn), .int (nI kn), .int (nI tn), .int (nI an), .int mo, .int tt, .int tf, .int mt, .int mf, .ref ma, .int (nI mn)])), (ma, .inl (cZ, 1024, .inl (io)))] := hD
  refine lv_aload_n hx hb d_M_literal_30 rfl (lv_at hl 0 rfl) ?_
  refine va_get (D := D) (ci := 4) (v := .int 0) (C := R_M) (T := T_M) (N := 12) hx hb hts u_M hown hK hP 0 rfl rfl 0 (by decide) (hts _ f_M_17) (fun _ h9 => h9) rfl d_M_literal_31 ?_
  refine lv_if_eq (tgt := 38) hx hb d_M_literal_34 rfl (fun hc34 => ?_) (fun hc34 => absurd rfl hc34)
  refine lv_iload_n hx hb d_M_literal_38 rfl (lv_at hl 1 rfl) ?_
  refine lv_if_le (tgt := 59) hx hb d_M_literal_39 rfl (fun hc39 => ?_) (fun hc39 => ?_)
  · refine lv_aload_n hx hb d_M_literal_59 rfl (lv_at hl 0 rfl) ?_
    refine lv_dup hx hb d_M_literal_60 rfl ?_
    refine va_get (D := D) (ci := 4) (v := .int tf) (C := R_M) (T := T_M) (N := 12) hx hb hts u_M hown hK hP 0 rfl rfl 7 (by decide) (hts _ f_M_37) (fun _ h9 => h9) rfl d_M_literal_61 ?_
    refine lv_iconst (v := 1) hx hb d_M_literal_64 (by decide) ?_
    refine lv_iload_n hx hb d_M_literal_65 rfl (lv_at hl 1 rfl) ?_
    refine lv_ineg hx hb d_M_literal_66 ?_
    refine lv_iconst (v := 1) hx hb d_M_literal_67 (by decide) ?_
    refine lv_isub hx hb d_M_literal_68 ?_
    refine lv_ishl hx hb d_M_literal_69 ?_
    refine lv_ior hx hb d_M_literal_70 ?_
    refine va_put (D := D) (ci := 4) (v := .int (tf ||| (1 <<< (((-x) - 1) &&& 31)))) (ty := .int) (C := R_M) (T := T_M) (N := 12) hx hb hts u_M t_M t_M_ok n_M hown hK hP hD hS 0 rfl rfl 7 (by decide) (hts _ f_M_37) (fun _ h9 => h9) rfl (by decide +kernel) rfl rfl (Nat.le_of_ble_eq_true rfl) d_M_literal_71 (fun H locs hP hD hS => ?_)
    have hP : va_P D cls_ [(m0, .inr (4, [.int 0, .int (nI vn), .int (nI kn), .int (nI tn), .int (nI an), .int mo, .int tt, .int (tf ||| (1 <<< (((-x) - 1) &&& 31))), .int mt, .int mf, .ref ma, .int (nI mn)])), (ma, .inl (cZ, 1024, .inl (io)))] H := hP
    have hD : va_D A [(m0, .inr (4, [.int 0, .int (nI vn), .int (nI kn), .int (nI tn), .int (nI an), .int mo, .int tt, .int (tf ||| (1 <<< (((-x) - 1) &&& 31))), .int mt, .int mf, .ref ma, .int (nI mn)])), (ma, .inl (cZ, 1024, .inl (io)))] := hD
    refine lv_aload_n hx hb d_M_literal_74 rfl (lv_at hl 0 rfl) ?_
    refine lv_dup hx hb d_M_literal_75 rfl ?_
    refine va_get (D := D) (ci := 4) (v := .int (nI tn)) (C := R_M) (T := T_M) (N := 12) hx hb hts u_M hown hK hP 0 rfl rfl 3 (by decide) (hts _ f_M_31) (fun _ h9 => h9) rfl d_M_literal_76 ?_
    refine lv_iconst (v := 1) hx hb d_M_literal_79 (by decide) ?_
    refine lv_iadd hx hb d_M_literal_80 ?_
    refine va_put (D := D) (ci := 4) (v := .int ((nI tn) + 1)) (ty := .int) (C := R_M) (T := T_M) (N := 12) hx hb hts u_M t_M t_M_ok n_M hown hK hP hD hS 0 rfl rfl 3 (by decide) (hts _ f_M_31) (fun _ h9 => h9) rfl (by decide +kernel) rfl rfl (Nat.le_of_ble_eq_true rfl) d_M_literal_81 (fun H locs hP hD hS => ?_)
    have hP : va_P D cls_ [(m0, .inr (4, [.int 0, .int (nI vn), .int (nI kn), .int ((nI tn) + 1), .int (nI an), .int mo, .int tt, .int (tf ||| (1 <<< (((-x) - 1) &&& 31))), .int mt, .int mf, .ref ma, .int (nI mn)])), (ma, .inl (cZ, 1024, .inl (io)))] H := hP
    have hD : va_D A [(m0, .inr (4, [.int 0, .int (nI vn), .int (nI kn), .int ((nI tn) + 1), .int (nI an), .int mo, .int tt, .int (tf ||| (1 <<< (((-x) - 1) &&& 31))), .int mt, .int mf, .ref ma, .int (nI mn)])), (ma, .inl (cZ, 1024, .inl (io)))] := hD
    rw [nI_1] at hP hD
    rw [if_neg (Int32.not_lt.mpr hc39), if_neg (Int32.not_lt.mpr hc39)] at fin
    exact fin _ _ _ _ hP hD hS d_M_literal_84
  · refine lv_aload_n hx hb d_M_literal_42 rfl (lv_at hl 0 rfl) ?_
    refine lv_dup hx hb d_M_literal_43 rfl ?_
    refine va_get (D := D) (ci := 4) (v := .int tt) (C := R_M) (T := T_M) (N := 12) hx hb hts u_M hown hK hP 0 rfl rfl 6 (by decide) (hts _ f_M_34) (fun _ h9 => h9) rfl d_M_literal_44 ?_
    refine lv_iconst (v := 1) hx hb d_M_literal_47 (by decide) ?_
    refine lv_iload_n hx hb d_M_literal_48 rfl (lv_at hl 1 rfl) ?_
    refine lv_iconst (v := 1) hx hb d_M_literal_49 (by decide) ?_
    refine lv_isub hx hb d_M_literal_50 ?_
    refine lv_ishl hx hb d_M_literal_51 ?_
    refine lv_ior hx hb d_M_literal_52 ?_
    refine va_put (D := D) (ci := 4) (v := .int (tt ||| (1 <<< ((x - 1) &&& 31)))) (ty := .int) (C := R_M) (T := T_M) (N := 12) hx hb hts u_M t_M t_M_ok n_M hown hK hP hD hS 0 rfl rfl 6 (by decide) (hts _ f_M_34) (fun _ h9 => h9) rfl (by decide +kernel) rfl rfl (Nat.le_of_ble_eq_true rfl) d_M_literal_53 (fun H locs hP hD hS => ?_)
    have hP : va_P D cls_ [(m0, .inr (4, [.int 0, .int (nI vn), .int (nI kn), .int (nI tn), .int (nI an), .int mo, .int (tt ||| (1 <<< ((x - 1) &&& 31))), .int tf, .int mt, .int mf, .ref ma, .int (nI mn)])), (ma, .inl (cZ, 1024, .inl (io)))] H := hP
    have hD : va_D A [(m0, .inr (4, [.int 0, .int (nI vn), .int (nI kn), .int (nI tn), .int (nI an), .int mo, .int (tt ||| (1 <<< ((x - 1) &&& 31))), .int tf, .int mt, .int mf, .ref ma, .int (nI mn)])), (ma, .inl (cZ, 1024, .inl (io)))] := hD
    refine lv_goto (tgt := 74) hx hb d_M_literal_56 rfl ?_
    refine lv_aload_n hx hb d_M_literal_74 rfl (lv_at hl 0 rfl) ?_
    refine lv_dup hx hb d_M_literal_75 rfl ?_
    refine va_get (D := D) (ci := 4) (v := .int (nI tn)) (C := R_M) (T := T_M) (N := 12) hx hb hts u_M hown hK hP 0 rfl rfl 3 (by decide) (hts _ f_M_31) (fun _ h9 => h9) rfl d_M_literal_76 ?_
    refine lv_iconst (v := 1) hx hb d_M_literal_79 (by decide) ?_
    refine lv_iadd hx hb d_M_literal_80 ?_
    refine va_put (D := D) (ci := 4) (v := .int ((nI tn) + 1)) (ty := .int) (C := R_M) (T := T_M) (N := 12) hx hb hts u_M t_M t_M_ok n_M hown hK hP hD hS 0 rfl rfl 3 (by decide) (hts _ f_M_31) (fun _ h9 => h9) rfl (by decide +kernel) rfl rfl (Nat.le_of_ble_eq_true rfl) d_M_literal_81 (fun H locs hP hD hS => ?_)
    have hP : va_P D cls_ [(m0, .inr (4, [.int 0, .int (nI vn), .int (nI kn), .int ((nI tn) + 1), .int (nI an), .int mo, .int (tt ||| (1 <<< ((x - 1) &&& 31))), .int tf, .int mt, .int mf, .ref ma, .int (nI mn)])), (ma, .inl (cZ, 1024, .inl (io)))] H := hP
    have hD : va_D A [(m0, .inr (4, [.int 0, .int (nI vn), .int (nI kn), .int ((nI tn) + 1), .int (nI an), .int mo, .int (tt ||| (1 <<< ((x - 1) &&& 31))), .int tf, .int mt, .int mf, .ref ma, .int (nI mn)])), (ma, .inl (cZ, 1024, .inl (io)))] := hD
    rw [nI_1] at hP hD
    rw [if_pos (Int32.not_le.mp hc39), if_pos (Int32.not_le.mp hc39)] at fin
    exact fin _ _ _ _ hP hD hS d_M_literal_84
set_option maxHeartbeats 4000000 in
set_option maxRecDepth 100000 in
theorem k_M_assume_b (l : Launch) (D : va_G) (cZ : ClassId) (m0 ma : Nat) (th : Int32) (vn kn tn an : Nat) (mo tt tf mt mf : Int32) (io : Nat → Int32) (mn : Nat) (x : Int32) (hx9 : ¬ LOK vn x) : KTv l y_M_assume c_M_assume 2 { frames := 1, cells := 0, slots := 0, locals := 21 } D [(cZ, .boolean)] [.ref m0, .int x] (wM cZ m0 ma th vn kn tn an mo tt tf mt mf io mn) (wM cZ m0 ma 1 vn kn tn an mo tt tf mt mf io mn) := by
  refine KTv_of (own := R_M) (by decide +kernel) rfl (Nat.le_of_ble_eq_true rfl) ?_
  intro p e st m below meth c A ls Q hx hb hml hts hown hK hP hD hS hA hl fin
  refine lv_aload_n hx hb d_M_assume_0 rfl (lv_at hl 0 rfl) ?_
  refine lv_aload_n hx hb d_M_assume_1 rfl (lv_at hl 0 rfl) ?_
  refine lv_iload_n hx hb d_M_assume_2 rfl (lv_at hl 1 rfl) ?_
  refine CTi_V (isC := [0, 1]) (isR := []) (wr := []) (wi := [(m0, .inr (4, [.int th, .int (nI vn), .int (nI kn), .int (nI tn), .int (nI an), .int mo, .int tt, .int tf, .int mt, .int mf, .ref ma, .int (nI mn)])), (ma, .inl (cZ, 1024, .inl (io)))]) (wo := [(m0, .inr (4, [.int th, .int (nI vn), .int (nI kn), .int (nI tn), .int (nI an), .int mo, .int tt, .int tf, .int mt, .int mf, .ref ma, .int (nI mn)])), (ma, .inl (cZ, 1024, .inl (io)))]) (b := m0) (As := [.int x]) (rest := [.ref m0]) ⟨hx, hb, hml, hown, hts⟩ [0] (k_M_isLiteral l D cZ m0 ma th vn kn tn an mo tt tf mt mf io mn x) (cwV 1 hts v_M_27 rfl rfl rfl (by decide +kernel) ⟨Nat.le_of_ble_eq_true rfl, Nat.le_of_ble_eq_true rfl⟩) ⟨rfl, rfl, rfl, rfl, by decide⟩ rfl hK hP hD hS hA (va_recv (ci := 4) hK hP rfl (q0 := 0) rfl) rfl hl.1 (Nat.le_of_ble_eq_true rfl) d_M_assume_3 ⟨Nat.le_of_ble_eq_true rfl, Nat.le_of_ble_eq_true rfl⟩ (fun H locs hP hD hS => ?_)
  have hP : va_P D cls_ [(m0, .inr (4, [.int th, .int (nI vn), .int (nI kn), .int (nI tn), .int (nI an), .int mo, .int tt, .int tf, .int mt, .int mf, .ref ma, .int (nI mn)])), (ma, .inl (cZ, 1024, .inl (io)))] H := hP
  have hD : va_D A [(m0, .inr (4, [.int th, .int (nI vn), .int (nI kn), .int (nI tn), .int (nI an), .int mo, .int tt, .int tf, .int mt, .int mf, .ref ma, .int (nI mn)])), (ma, .inl (cZ, 1024, .inl (io)))] := hD
  refine lv_if_ne (tgt := 13) hx hb d_M_assume_6 rfl (fun hc6 => absurd (it1 hc6) hx9) (fun hc6 => ?_)
  refine lv_iconst (v := 1) hx hb d_M_assume_9 (by decide) ?_
  refine lv_goto (tgt := 27) hx hb d_M_assume_10 rfl ?_
  refine va_put (D := D) (ci := 4) (v := .int 1) (ty := .int) (C := R_M) (T := T_M) (N := 12) hx hb hts u_M t_M t_M_ok n_M hown hK hP hD hS 0 rfl rfl 0 (by decide) (hts _ f_M_17) (fun _ h9 => h9) rfl (by decide +kernel) rfl rfl (Nat.le_of_ble_eq_true rfl) d_M_assume_27 (fun H locs hP hD hS => ?_)
  have hP : va_P D cls_ [(m0, .inr (4, [.int 1, .int (nI vn), .int (nI kn), .int (nI tn), .int (nI an), .int mo, .int tt, .int tf, .int mt, .int mf, .ref ma, .int (nI mn)])), (ma, .inl (cZ, 1024, .inl (io)))] H := hP
  have hD : va_D A [(m0, .inr (4, [.int 1, .int (nI vn), .int (nI kn), .int (nI tn), .int (nI an), .int mo, .int tt, .int tf, .int mt, .int mf, .ref ma, .int (nI mn)])), (ma, .inl (cZ, 1024, .inl (io)))] := hD
  refine lv_aload_n hx hb d_M_assume_30 rfl (lv_at hl 0 rfl) ?_
  refine va_get (D := D) (ci := 4) (v := .int 1) (C := R_M) (T := T_M) (N := 12) hx hb hts u_M hown hK hP 0 rfl rfl 0 (by decide) (hts _ f_M_17) (fun _ h9 => h9) rfl d_M_assume_31 ?_
  refine lv_if_eq (tgt := 38) hx hb d_M_assume_34 rfl (fun hc34 => absurd hc34 (by decide)) (fun hc34 => ?_)
  exact fin _ _ _ _ hP hD hS d_M_assume_37
set_option maxHeartbeats 4000000 in
set_option maxRecDepth 100000 in
theorem k_M_assume_r (l : Launch) (D : va_G) (cZ : ClassId) (m0 ma : Nat) (th : Int32) (vn kn tn an : Nat) (mo tt tf mt mf : Int32) (io : Nat → Int32) (mn : Nat) (x : Int32) (hx9 : LOK vn x) (ht : an = 10) : KTv l y_M_assume c_M_assume 2 { frames := 1, cells := 0, slots := 0, locals := 21 } D [(cZ, .boolean)] [.ref m0, .int x] (wM cZ m0 ma th vn kn tn an mo tt tf mt mf io mn) (wM cZ m0 ma 2 vn kn tn an mo tt tf mt mf io mn) := by
  refine KTv_of (own := R_M) (by decide +kernel) rfl (Nat.le_of_ble_eq_true rfl) ?_
  intro p e st m below meth c A ls Q hx hb hml hts hown hK hP hD hS hA hl fin
  refine lv_aload_n hx hb d_M_assume_0 rfl (lv_at hl 0 rfl) ?_
  refine lv_aload_n hx hb d_M_assume_1 rfl (lv_at hl 0 rfl) ?_
  refine lv_iload_n hx hb d_M_assume_2 rfl (lv_at hl 1 rfl) ?_
  refine CTi_V (isC := [0, 1]) (isR := []) (wr := []) (wi := [(m0, .inr (4, [.int th, .int (nI vn), .int (nI kn), .int (nI tn), .int (nI an), .int mo, .int tt, .int tf, .int mt, .int mf, .ref ma, .int (nI mn)])), (ma, .inl (cZ, 1024, .inl (io)))]) (wo := [(m0, .inr (4, [.int th, .int (nI vn), .int (nI kn), .int (nI tn), .int (nI an), .int mo, .int tt, .int tf, .int mt, .int mf, .ref ma, .int (nI mn)])), (ma, .inl (cZ, 1024, .inl (io)))]) (b := m0) (As := [.int x]) (rest := [.ref m0]) ⟨hx, hb, hml, hown, hts⟩ [0] (k_M_isLiteral l D cZ m0 ma th vn kn tn an mo tt tf mt mf io mn x) (cwV 1 hts v_M_27 rfl rfl rfl (by decide +kernel) ⟨Nat.le_of_ble_eq_true rfl, Nat.le_of_ble_eq_true rfl⟩) ⟨rfl, rfl, rfl, rfl, by decide⟩ rfl hK hP hD hS hA (va_recv (ci := 4) hK hP rfl (q0 := 0) rfl) rfl hl.1 (Nat.le_of_ble_eq_true rfl) d_M_assume_3 ⟨Nat.le_of_ble_eq_true rfl, Nat.le_of_ble_eq_true rfl⟩ (fun H locs hP hD hS => ?_)
  have hP : va_P D cls_ [(m0, .inr (4, [.int th, .int (nI vn), .int (nI kn), .int (nI tn), .int (nI an), .int mo, .int tt, .int tf, .int mt, .int mf, .ref ma, .int (nI mn)])), (ma, .inl (cZ, 1024, .inl (io)))] H := hP
  have hD : va_D A [(m0, .inr (4, [.int th, .int (nI vn), .int (nI kn), .int (nI tn), .int (nI an), .int mo, .int tt, .int tf, .int mt, .int mf, .ref ma, .int (nI mn)])), (ma, .inl (cZ, 1024, .inl (io)))] := hD
  refine lv_if_ne (tgt := 13) hx hb d_M_assume_6 rfl (fun hc6 => ?_) (fun hc6 => absurd hx9 (it0 hc6))
  refine lv_aload_n hx hb d_M_assume_13 rfl (lv_at hl 0 rfl) ?_
  refine va_get (D := D) (ci := 4) (v := .int (nI an)) (C := R_M) (T := T_M) (N := 12) hx hb hts u_M hown hK hP 0 rfl rfl 4 (by decide) (hts _ f_M_43) (fun _ h9 => h9) rfl d_M_assume_14 ?_
  refine lv_bipush (v := 10) hx hb d_M_assume_17 (by decide +kernel) ?_
  refine lv_icmp_ne (tgt := 26) hx hb d_M_assume_19 rfl (fun hc19 => absurd (by rw [ht]; rfl) hc19) (fun hc19 => ?_)
  refine lv_iconst (v := 2) hx hb d_M_assume_22 (by decide) ?_
  refine lv_goto (tgt := 27) hx hb d_M_assume_23 rfl ?_
  refine va_put (D := D) (ci := 4) (v := .int 2) (ty := .int) (C := R_M) (T := T_M) (N := 12) hx hb hts u_M t_M t_M_ok n_M hown hK hP hD hS 0 rfl rfl 0 (by decide) (hts _ f_M_17) (fun _ h9 => h9) rfl (by decide +kernel) rfl rfl (Nat.le_of_ble_eq_true rfl) d_M_assume_27 (fun H locs hP hD hS => ?_)
  have hP : va_P D cls_ [(m0, .inr (4, [.int 2, .int (nI vn), .int (nI kn), .int (nI tn), .int (nI an), .int mo, .int tt, .int tf, .int mt, .int mf, .ref ma, .int (nI mn)])), (ma, .inl (cZ, 1024, .inl (io)))] H := hP
  have hD : va_D A [(m0, .inr (4, [.int 2, .int (nI vn), .int (nI kn), .int (nI tn), .int (nI an), .int mo, .int tt, .int tf, .int mt, .int mf, .ref ma, .int (nI mn)])), (ma, .inl (cZ, 1024, .inl (io)))] := hD
  refine lv_aload_n hx hb d_M_assume_30 rfl (lv_at hl 0 rfl) ?_
  refine va_get (D := D) (ci := 4) (v := .int 2) (C := R_M) (T := T_M) (N := 12) hx hb hts u_M hown hK hP 0 rfl rfl 0 (by decide) (hts _ f_M_17) (fun _ h9 => h9) rfl d_M_assume_31 ?_
  refine lv_if_eq (tgt := 38) hx hb d_M_assume_34 rfl (fun hc34 => absurd hc34 (by decide)) (fun hc34 => ?_)
  exact fin _ _ _ _ hP hD hS d_M_assume_37
set_option maxHeartbeats 4000000 in
set_option maxRecDepth 100000 in
theorem k_M_assume (l : Launch) (D : va_G) (cZ : ClassId) (m0 ma : Nat) (th : Int32) (vn kn tn an : Nat) (mo tt tf mt mf : Int32) (io : Nat → Int32) (mn : Nat) (x : Int32) (hx9 : LOK vn x) (ht : an < 10) : KTv l y_M_assume c_M_assume 2 { frames := 1, cells := 0, slots := 0, locals := 21 } D [(cZ, .boolean)] [.ref m0, .int x] (wM cZ m0 ma th vn kn tn an mo tt tf mt mf io mn) (wM cZ m0 ma 0 vn kn tn ((an + 1)) mo tt tf ((if 0 < x then mt ||| (1 <<< ((x - 1) &&& 31)) else mt)) ((if 0 < x then mf else mf ||| (1 <<< ((-x - 1) &&& 31)))) io mn) := by
  refine KTv_of (own := R_M) (by decide +kernel) rfl (Nat.le_of_ble_eq_true rfl) ?_
  intro p e st m below meth c A ls Q hx hb hml hts hown hK hP hD hS hA hl fin
  refine lv_aload_n hx hb d_M_assume_0 rfl (lv_at hl 0 rfl) ?_
  refine lv_aload_n hx hb d_M_assume_1 rfl (lv_at hl 0 rfl) ?_
  refine lv_iload_n hx hb d_M_assume_2 rfl (lv_at hl 1 rfl) ?_
  refine CTi_V (isC := [0, 1]) (isR := []) (wr := []) (wi := [(m0, .inr (4, [.int th, .int (nI vn), .int (nI kn), .int (nI tn), .int (nI an), .int mo, .int tt, .int tf, .int mt, .int mf, .ref ma, .int (nI mn)])), (ma, .inl (cZ, 1024, .inl (io)))]) (wo := [(m0, .inr (4, [.int th, .int (nI vn), .int (nI kn), .int (nI tn), .int (nI an), .int mo, .int tt, .int tf, .int mt, .int mf, .ref ma, .int (nI mn)])), (ma, .inl (cZ, 1024, .inl (io)))]) (b := m0) (As := [.int x]) (rest := [.ref m0]) ⟨hx, hb, hml, hown, hts⟩ [0] (k_M_isLiteral l D cZ m0 ma th vn kn tn an mo tt tf mt mf io mn x) (cwV 1 hts v_M_27 rfl rfl rfl (by decide +kernel) ⟨Nat.le_of_ble_eq_true rfl, Nat.le_of_ble_eq_true rfl⟩) ⟨rfl, rfl, rfl, rfl, by decide⟩ rfl hK hP hD hS hA (va_recv (ci := 4) hK hP rfl (q0 := 0) rfl) rfl hl.1 (Nat.le_of_ble_eq_true rfl) d_M_assume_3 ⟨Nat.le_of_ble_eq_true rfl, Nat.le_of_ble_eq_true rfl⟩ (fun H locs hP hD hS => ?_)
  have hP : va_P D cls_ [(m0, .inr (4, [.int th, .int (nI vn), .int (nI kn), .int (nI tn), .int (nI an), .int mo, .int tt, .int tf, .int mt, .int mf, .ref ma, .int (nI mn)])), (ma, .inl (cZ, 1024, .inl (io)))] H := hP
  have hD : va_D A [(m0, .inr (4, [.int th, .int (nI vn), .int (nI kn), .int (nI tn), .int (nI an), .int mo, .int tt, .int tf, .int mt, .int mf, .ref ma, .int (nI mn)])), (ma, .inl (cZ, 1024, .inl (io)))] := hD
  refine lv_if_ne (tgt := 13) hx hb d_M_assume_6 rfl (fun hc6 => ?_) (fun hc6 => absurd hx9 (it0 hc6))
  refine lv_aload_n hx hb d_M_assume_13 rfl (lv_at hl 0 rfl) ?_
  refine va_get (D := D) (ci := 4) (v := .int (nI an)) (C := R_M) (T := T_M) (N := 12) hx hb hts u_M hown hK hP 0 rfl rfl 4 (by decide) (hts _ f_M_43) (fun _ h9 => h9) rfl d_M_assume_14 ?_
  refine lv_bipush (v := 10) hx hb d_M_assume_17 (by decide +kernel) ?_
  refine lv_icmp_ne (tgt := 26) hx hb d_M_assume_19 rfl (fun hc19 => ?_) (fun hc19 => absurd ((nI_eq (b := 10) (by omega) (by decide)).1 hc19) (by omega))
  refine lv_iconst (v := 0) hx hb d_M_assume_26 (by decide) ?_
  refine va_put (D := D) (ci := 4) (v := .int 0) (ty := .int) (C := R_M) (T := T_M) (N := 12) hx hb hts u_M t_M t_M_ok n_M hown hK hP hD hS 0 rfl rfl 0 (by decide) (hts _ f_M_17) (fun _ h9 => h9) rfl (by decide +kernel) rfl rfl (Nat.le_of_ble_eq_true rfl) d_M_assume_27 (fun H locs hP hD hS => ?_)
  have hP : va_P D cls_ [(m0, .inr (4, [.int 0, .int (nI vn), .int (nI kn), .int (nI tn), .int (nI an), .int mo, .int tt, .int tf, .int mt, .int mf, .ref ma, .int (nI mn)])), (ma, .inl (cZ, 1024, .inl (io)))] H := hP
  have hD : va_D A [(m0, .inr (4, [.int 0, .int (nI vn), .int (nI kn), .int (nI tn), .int (nI an), .int mo, .int tt, .int tf, .int mt, .int mf, .ref ma, .int (nI mn)])), (ma, .inl (cZ, 1024, .inl (io)))] := hD
  refine lv_aload_n hx hb d_M_assume_30 rfl (lv_at hl 0 rfl) ?_
  refine va_get (D := D) (ci := 4) (v := .int 0) (C := R_M) (T := T_M) (N := 12) hx hb hts u_M hown hK hP 0 rfl rfl 0 (by decide) (hts _ f_M_17) (fun _ h9 => h9) rfl d_M_assume_31 ?_
  refine lv_if_eq (tgt := 38) hx hb d_M_assume_34 rfl (fun hc34 => ?_) (fun hc34 => absurd rfl hc34)
  refine lv_iload_n hx hb d_M_assume_38 rfl (lv_at hl 1 rfl) ?_
  refine lv_if_le (tgt := 59) hx hb d_M_assume_39 rfl (fun hc39 => ?_) (fun hc39 => ?_)
  · refine lv_aload_n hx hb d_M_assume_59 rfl (lv_at hl 0 rfl) ?_
    refine lv_dup hx hb d_M_assume_60 rfl ?_
    refine va_get (D := D) (ci := 4) (v := .int mf) (C := R_M) (T := T_M) (N := 12) hx hb hts u_M hown hK hP 0 rfl rfl 9 (by decide) (hts _ f_M_49) (fun _ h9 => h9) rfl d_M_assume_61 ?_
    refine lv_iconst (v := 1) hx hb d_M_assume_64 (by decide) ?_
    refine lv_iload_n hx hb d_M_assume_65 rfl (lv_at hl 1 rfl) ?_
    refine lv_ineg hx hb d_M_assume_66 ?_
    refine lv_iconst (v := 1) hx hb d_M_assume_67 (by decide) ?_
    refine lv_isub hx hb d_M_assume_68 ?_
    refine lv_ishl hx hb d_M_assume_69 ?_
    refine lv_ior hx hb d_M_assume_70 ?_
    refine va_put (D := D) (ci := 4) (v := .int (mf ||| (1 <<< (((-x) - 1) &&& 31)))) (ty := .int) (C := R_M) (T := T_M) (N := 12) hx hb hts u_M t_M t_M_ok n_M hown hK hP hD hS 0 rfl rfl 9 (by decide) (hts _ f_M_49) (fun _ h9 => h9) rfl (by decide +kernel) rfl rfl (Nat.le_of_ble_eq_true rfl) d_M_assume_71 (fun H locs hP hD hS => ?_)
    have hP : va_P D cls_ [(m0, .inr (4, [.int 0, .int (nI vn), .int (nI kn), .int (nI tn), .int (nI an), .int mo, .int tt, .int tf, .int mt, .int (mf ||| (1 <<< (((-x) - 1) &&& 31))), .ref ma, .int (nI mn)])), (ma, .inl (cZ, 1024, .inl (io)))] H := hP
    have hD : va_D A [(m0, .inr (4, [.int 0, .int (nI vn), .int (nI kn), .int (nI tn), .int (nI an), .int mo, .int tt, .int tf, .int mt, .int (mf ||| (1 <<< (((-x) - 1) &&& 31))), .ref ma, .int (nI mn)])), (ma, .inl (cZ, 1024, .inl (io)))] := hD
    refine lv_aload_n hx hb d_M_assume_74 rfl (lv_at hl 0 rfl) ?_
    refine lv_dup hx hb d_M_assume_75 rfl ?_
    refine va_get (D := D) (ci := 4) (v := .int (nI an)) (C := R_M) (T := T_M) (N := 12) hx hb hts u_M hown hK hP 0 rfl rfl 4 (by decide) (hts _ f_M_43) (fun _ h9 => h9) rfl d_M_assume_76 ?_
    refine lv_iconst (v := 1) hx hb d_M_assume_79 (by decide) ?_
    refine lv_iadd hx hb d_M_assume_80 ?_
    refine va_put (D := D) (ci := 4) (v := .int ((nI an) + 1)) (ty := .int) (C := R_M) (T := T_M) (N := 12) hx hb hts u_M t_M t_M_ok n_M hown hK hP hD hS 0 rfl rfl 4 (by decide) (hts _ f_M_43) (fun _ h9 => h9) rfl (by decide +kernel) rfl rfl (Nat.le_of_ble_eq_true rfl) d_M_assume_81 (fun H locs hP hD hS => ?_)
    have hP : va_P D cls_ [(m0, .inr (4, [.int 0, .int (nI vn), .int (nI kn), .int (nI tn), .int ((nI an) + 1), .int mo, .int tt, .int tf, .int mt, .int (mf ||| (1 <<< (((-x) - 1) &&& 31))), .ref ma, .int (nI mn)])), (ma, .inl (cZ, 1024, .inl (io)))] H := hP
    have hD : va_D A [(m0, .inr (4, [.int 0, .int (nI vn), .int (nI kn), .int (nI tn), .int ((nI an) + 1), .int mo, .int tt, .int tf, .int mt, .int (mf ||| (1 <<< (((-x) - 1) &&& 31))), .ref ma, .int (nI mn)])), (ma, .inl (cZ, 1024, .inl (io)))] := hD
    rw [nI_1] at hP hD
    rw [if_neg (Int32.not_lt.mpr hc39), if_neg (Int32.not_lt.mpr hc39)] at fin
    exact fin _ _ _ _ hP hD hS d_M_assume_84
  · refine lv_aload_n hx hb d_M_assume_42 rfl (lv_at hl 0 rfl) ?_
    refine lv_dup hx hb d_M_assume_43 rfl ?_
    refine va_get (D := D) (ci := 4) (v := .int mt) (C := R_M) (T := T_M) (N := 12) hx hb hts u_M hown hK hP 0 rfl rfl 8 (by decide) (hts _ f_M_46) (fun _ h9 => h9) rfl d_M_assume_44 ?_
    refine lv_iconst (v := 1) hx hb d_M_assume_47 (by decide) ?_
    refine lv_iload_n hx hb d_M_assume_48 rfl (lv_at hl 1 rfl) ?_
    refine lv_iconst (v := 1) hx hb d_M_assume_49 (by decide) ?_
    refine lv_isub hx hb d_M_assume_50 ?_
    refine lv_ishl hx hb d_M_assume_51 ?_
    refine lv_ior hx hb d_M_assume_52 ?_
    refine va_put (D := D) (ci := 4) (v := .int (mt ||| (1 <<< ((x - 1) &&& 31)))) (ty := .int) (C := R_M) (T := T_M) (N := 12) hx hb hts u_M t_M t_M_ok n_M hown hK hP hD hS 0 rfl rfl 8 (by decide) (hts _ f_M_46) (fun _ h9 => h9) rfl (by decide +kernel) rfl rfl (Nat.le_of_ble_eq_true rfl) d_M_assume_53 (fun H locs hP hD hS => ?_)
    have hP : va_P D cls_ [(m0, .inr (4, [.int 0, .int (nI vn), .int (nI kn), .int (nI tn), .int (nI an), .int mo, .int tt, .int tf, .int (mt ||| (1 <<< ((x - 1) &&& 31))), .int mf, .ref ma, .int (nI mn)])), (ma, .inl (cZ, 1024, .inl (io)))] H := hP
    have hD : va_D A [(m0, .inr (4, [.int 0, .int (nI vn), .int (nI kn), .int (nI tn), .int (nI an), .int mo, .int tt, .int tf, .int (mt ||| (1 <<< ((x - 1) &&& 31))), .int mf, .ref ma, .int (nI mn)])), (ma, .inl (cZ, 1024, .inl (io)))] := hD
    refine lv_goto (tgt := 74) hx hb d_M_assume_56 rfl ?_
    refine lv_aload_n hx hb d_M_assume_74 rfl (lv_at hl 0 rfl) ?_
    refine lv_dup hx hb d_M_assume_75 rfl ?_
    refine va_get (D := D) (ci := 4) (v := .int (nI an)) (C := R_M) (T := T_M) (N := 12) hx hb hts u_M hown hK hP 0 rfl rfl 4 (by decide) (hts _ f_M_43) (fun _ h9 => h9) rfl d_M_assume_76 ?_
    refine lv_iconst (v := 1) hx hb d_M_assume_79 (by decide) ?_
    refine lv_iadd hx hb d_M_assume_80 ?_
    refine va_put (D := D) (ci := 4) (v := .int ((nI an) + 1)) (ty := .int) (C := R_M) (T := T_M) (N := 12) hx hb hts u_M t_M t_M_ok n_M hown hK hP hD hS 0 rfl rfl 4 (by decide) (hts _ f_M_43) (fun _ h9 => h9) rfl (by decide +kernel) rfl rfl (Nat.le_of_ble_eq_true rfl) d_M_assume_81 (fun H locs hP hD hS => ?_)
    have hP : va_P D cls_ [(m0, .inr (4, [.int 0, .int (nI vn), .int (nI kn), .int (nI tn), .int ((nI an) + 1), .int mo, .int tt, .int tf, .int (mt ||| (1 <<< ((x - 1) &&& 31))), .int mf, .ref ma, .int (nI mn)])), (ma, .inl (cZ, 1024, .inl (io)))] H := hP
    have hD : va_D A [(m0, .inr (4, [.int 0, .int (nI vn), .int (nI kn), .int (nI tn), .int ((nI an) + 1), .int mo, .int tt, .int tf, .int (mt ||| (1 <<< ((x - 1) &&& 31))), .int mf, .ref ma, .int (nI mn)])), (ma, .inl (cZ, 1024, .inl (io)))] := hD
    rw [nI_1] at hP hD
    rw [if_pos (Int32.not_le.mp hc39), if_pos (Int32.not_le.mp hc39)] at fin
    exact fin _ _ _ _ hP hD hS d_M_assume_84
set_option maxHeartbeats 4000000 in
set_option maxRecDepth 100000 in
theorem k_M_close_r (l : Launch) (D : va_G) (cZ : ClassId) (m0 ma : Nat) (th : Int32) (vn kn tn an : Nat) (mo tt tf mt mf : Int32) (io : Nat → Int32) (mn : Nat) (hv : kn = 500) : KTi l y_M_close c_M_close 2 .int { frames := 1, cells := 0, slots := 0, locals := 21 } D [(cZ, .boolean)] [.ref m0] (wM cZ m0 ma th vn kn tn an mo tt tf mt mf io mn) (0) (wM cZ m0 ma 1 vn kn tn an mo tt tf mt mf io mn) := by
  refine KTi_of (own := R_M) (by decide +kernel) rfl (Nat.le_of_ble_eq_true rfl) (vp_nar_int _) ?_
  intro p e st m below meth c A ls Q hx hb hml hts hown hK hP hD hS hA hl fin
  refine lv_aload_n hx hb d_M_close_0 rfl (lv_at hl 0 rfl) ?_
  refine va_get (D := D) (ci := 4) (v := .int (nI kn)) (C := R_M) (T := T_M) (N := 12) hx hb hts u_M hown hK hP 0 rfl rfl 2 (by decide) (hts _ f_M_40) (fun _ h9 => h9) rfl d_M_close_1 ?_
  refine lv_sipush (v := 500) hx hb d_M_close_4 (by decide +kernel) ?_
  refine lv_icmp_ne (tgt := 16) hx hb d_M_close_7 rfl (fun hc7 => absurd (by rw [hv]; rfl) hc7) (fun hc7 => ?_)
  refine lv_aload_n hx hb d_M_close_10 rfl (lv_at hl 0 rfl) ?_
  refine lv_iconst (v := 1) hx hb d_M_close_11 (by decide) ?_
  refine CTi_V (isC := [0, 1]) (isR := []) (wr := []) (wi := [(m0, .inr (4, [.int th, .int (nI vn), .int (nI kn), .int (nI tn), .int (nI an), .int mo, .int tt, .int tf, .int mt, .int mf, .ref ma, .int (nI mn)])), (ma, .inl (cZ, 1024, .inl (io)))]) (wo := [(m0, .inr (4, [.int 1, .int (nI vn), .int (nI kn), .int (nI tn), .int (nI an), .int mo, .int tt, .int tf, .int mt, .int mf, .ref ma, .int (nI mn)])), (ma, .inl (cZ, 1024, .inl (io)))]) (b := m0) (As := [.int 1]) (rest := []) ⟨hx, hb, hml, hown, hts⟩ [0] (k_M_no l D cZ m0 ma th vn kn tn an mo tt tf mt mf io mn 1) (cwV 1 hts v_M_23 rfl rfl rfl (by decide +kernel) ⟨Nat.le_of_ble_eq_true rfl, Nat.le_of_ble_eq_true rfl⟩) ⟨rfl, rfl, rfl, rfl, by decide⟩ rfl hK hP hD hS hA (va_recv (ci := 4) hK hP rfl (q0 := 0) rfl) rfl hl.1 (Nat.le_of_ble_eq_true rfl) d_M_close_12 ⟨Nat.le_of_ble_eq_true rfl, Nat.le_of_ble_eq_true rfl⟩ (fun H locs hP hD hS => ?_)
  have hP : va_P D cls_ [(m0, .inr (4, [.int 1, .int (nI vn), .int (nI kn), .int (nI tn), .int (nI an), .int mo, .int tt, .int tf, .int mt, .int mf, .ref ma, .int (nI mn)])), (ma, .inl (cZ, 1024, .inl (io)))] H := hP
  have hD : va_D A [(m0, .inr (4, [.int 1, .int (nI vn), .int (nI kn), .int (nI tn), .int (nI an), .int mo, .int tt, .int tf, .int mt, .int mf, .ref ma, .int (nI mn)])), (ma, .inl (cZ, 1024, .inl (io)))] := hD
  exact fin _ _ _ _ _ hP hD hS (rfl) d_M_close_15
set_option maxHeartbeats 4000000 in
set_option maxRecDepth 100000 in
theorem k_M_close (l : Launch) (D : va_G) (cZ : ClassId) (m0 ma : Nat) (th : Int32) (vn kn tn an : Nat) (mo tt tf mt mf : Int32) (io : Nat → Int32) (mn : Nat) (hv : kn < 500) : KTi l y_M_close c_M_close 2 .int { frames := 1, cells := 0, slots := 0, locals := 21 } D [(cZ, .boolean)] [.ref m0] (wM cZ m0 ma th vn kn tn an mo tt tf mt mf io mn) (nI kn) (wM cZ m0 ma 0 vn ((kn + 1)) 0 an mo 0 0 mt mf ((clo io tt tf 1024)) mn) := by
  refine KTi_of (own := R_M) (by decide +kernel) rfl (Nat.le_of_ble_eq_true rfl) (vp_nar_int _) ?_
  intro p e st m below meth c A ls Q hx hb hml hts hown hK hP hD hS hA hl fin
  have loop : ∀ (k x : Nat) (ls : Array Slot) (H : Heap) (locs : List Loc), x + k = 1024 → va_P D cls_ [(m0, .inr (4, [.int 0, .int (nI vn), .int (nI kn), .int (nI tn), .int (nI an), .int mo, .int tt, .int tf, .int mt, .int mf, .ref ma, .int (nI mn)])), (ma, .inl (cZ, 1024, .inl (clo io tt tf x)))] H → va_D A [(m0, .inr (4, [.int 0, .int (nI vn), .int (nI kn), .int (nI tn), .int (nI an), .int mo, .int tt, .int tf, .int mt, .int mf, .ref ma, .int (nI mn)])), (ma, .inl (cZ, 1024, .inl (clo io tt tf x)))] → va_S A st.heap H locs → lv_has ls 2 [(1, .int (nI x)), (0, .ref m0)] → W p l e { frames := 1, cells := 0, slots := 0, locals := 21 } st m [Value.ref m0].toArray below meth c H locs 0 0 Q (F0 m 23 ls []) := by
    intro k
    induction k with
    | zero =>
      intro x ls H locs hx9 hP hD hS hl
      have hx9 : x = 1024 := by omega
      subst hx9
      refine lv_iload_n hx hb d_M_close_23 rfl (lv_at hl 0 rfl) ?_
      refine lv_aload_n hx hb d_M_close_24 rfl (lv_at hl 1 rfl) ?_
      refine va_get (D := D) (ci := 4) (v := .ref ma) (C := R_M) (T := T_M) (N := 12) hx hb hts u_M hown hK hP 0 rfl rfl 10 (by decide) (hts _ f_M_13) (fun _ h9 => h9) rfl d_M_close_25 ?_
      refine va_alen (v := 1024) hx hb hK hP 1 0 rfl rfl rfl d_M_close_28 ?_
      refine lv_icmp_ge (tgt := 65) hx hb d_M_close_29 rfl (fun hc29 => ?_) (fun hc29 => absurd (by decide +kernel) hc29)
      refine lv_aload_n hx hb d_M_close_65 rfl (lv_at hl 1 rfl) ?_
      refine lv_iconst (v := 0) hx hb d_M_close_66 (by decide) ?_
      refine va_put (D := D) (ci := 4) (v := .int 0) (ty := .int) (C := R_M) (T := T_M) (N := 12) hx hb hts u_M t_M t_M_ok n_M hown hK hP hD hS 0 rfl rfl 6 (by decide) (hts _ f_M_34) (fun _ h9 => h9) rfl (by decide +kernel) rfl rfl (Nat.le_of_ble_eq_true rfl) d_M_close_67 (fun H locs hP hD hS => ?_)
      have hP : va_P D cls_ [(m0, .inr (4, [.int 0, .int (nI vn), .int (nI kn), .int (nI tn), .int (nI an), .int mo, .int 0, .int tf, .int mt, .int mf, .ref ma, .int (nI mn)])), (ma, .inl (cZ, 1024, .inl (clo io tt tf 1024)))] H := hP
      have hD : va_D A [(m0, .inr (4, [.int 0, .int (nI vn), .int (nI kn), .int (nI tn), .int (nI an), .int mo, .int 0, .int tf, .int mt, .int mf, .ref ma, .int (nI mn)])), (ma, .inl (cZ, 1024, .inl (clo io tt tf 1024)))] := hD
      refine lv_aload_n hx hb d_M_close_70 rfl (lv_at hl 1 rfl) ?_
      refine lv_iconst (v := 0) hx hb d_M_close_71 (by decide) ?_
      refine va_put (D := D) (ci := 4) (v := .int 0) (ty := .int) (C := R_M) (T := T_M) (N := 12) hx hb hts u_M t_M t_M_ok n_M hown hK hP hD hS 0 rfl rfl 7 (by decide) (hts _ f_M_37) (fun _ h9 => h9) rfl (by decide +kernel) rfl rfl (Nat.le_of_ble_eq_true rfl) d_M_close_72 (fun H locs hP hD hS => ?_)
      have hP : va_P D cls_ [(m0, .inr (4, [.int 0, .int (nI vn), .int (nI kn), .int (nI tn), .int (nI an), .int mo, .int 0, .int 0, .int mt, .int mf, .ref ma, .int (nI mn)])), (ma, .inl (cZ, 1024, .inl (clo io tt tf 1024)))] H := hP
      have hD : va_D A [(m0, .inr (4, [.int 0, .int (nI vn), .int (nI kn), .int (nI tn), .int (nI an), .int mo, .int 0, .int 0, .int mt, .int mf, .ref ma, .int (nI mn)])), (ma, .inl (cZ, 1024, .inl (clo io tt tf 1024)))] := hD
      refine lv_aload_n hx hb d_M_close_75 rfl (lv_at hl 1 rfl) ?_
      refine lv_iconst (v := 0) hx hb d_M_close_76 (by decide) ?_
      refine va_put (D := D) (ci := 4) (v := .int 0) (ty := .int) (C := R_M) (T := T_M) (N := 12) hx hb hts u_M t_M t_M_ok n_M hown hK hP hD hS 0 rfl rfl 3 (by decide) (hts _ f_M_31) (fun _ h9 => h9) rfl (by decide +kernel) rfl rfl (Nat.le_of_ble_eq_true rfl) d_M_close_77 (fun H locs hP hD hS => ?_)
      have hP : va_P D cls_ [(m0, .inr (4, [.int 0, .int (nI vn), .int (nI kn), .int 0, .int (nI an), .int mo, .int 0, .int 0, .int mt, .int mf, .ref ma, .int (nI mn)])), (ma, .inl (cZ, 1024, .inl (clo io tt tf 1024)))] H := hP
      have hD : va_D A [(m0, .inr (4, [.int 0, .int (nI vn), .int (nI kn), .int 0, .int (nI an), .int mo, .int 0, .int 0, .int mt, .int mf, .ref ma, .int (nI mn)])), (ma, .inl (cZ, 1024, .inl (clo io tt tf 1024)))] := hD
      refine lv_aload_n hx hb d_M_close_80 rfl (lv_at hl 1 rfl) ?_
      refine lv_dup hx hb d_M_close_81 rfl ?_
      refine va_get (D := D) (ci := 4) (v := .int (nI kn)) (C := R_M) (T := T_M) (N := 12) hx hb hts u_M hown hK hP 0 rfl rfl 2 (by decide) (hts _ f_M_40) (fun _ h9 => h9) rfl d_M_close_82 ?_
      refine lv_iconst (v := 1) hx hb d_M_close_85 (by decide) ?_
      refine lv_iadd hx hb d_M_close_86 ?_
      refine va_put (D := D) (ci := 4) (v := .int ((nI kn) + 1)) (ty := .int) (C := R_M) (T := T_M) (N := 12) hx hb hts u_M t_M t_M_ok n_M hown hK hP hD hS 0 rfl rfl 2 (by decide) (hts _ f_M_40) (fun _ h9 => h9) rfl (by decide +kernel) rfl rfl (Nat.le_of_ble_eq_true rfl) d_M_close_87 (fun H locs hP hD hS => ?_)
      have hP : va_P D cls_ [(m0, .inr (4, [.int 0, .int (nI vn), .int ((nI kn) + 1), .int 0, .int (nI an), .int mo, .int 0, .int 0, .int mt, .int mf, .ref ma, .int (nI mn)])), (ma, .inl (cZ, 1024, .inl (clo io tt tf 1024)))] H := hP
      have hD : va_D A [(m0, .inr (4, [.int 0, .int (nI vn), .int ((nI kn) + 1), .int 0, .int (nI an), .int mo, .int 0, .int 0, .int mt, .int mf, .ref ma, .int (nI mn)])), (ma, .inl (cZ, 1024, .inl (clo io tt tf 1024)))] := hD
      refine lv_aload_n hx hb d_M_close_90 rfl (lv_at hl 1 rfl) ?_
      refine va_get (D := D) (ci := 4) (v := .int ((nI kn) + 1)) (C := R_M) (T := T_M) (N := 12) hx hb hts u_M hown hK hP 0 rfl rfl 2 (by decide) (hts _ f_M_40) (fun _ h9 => h9) rfl d_M_close_91 ?_
      refine lv_iconst (v := 1) hx hb d_M_close_94 (by decide) ?_
      refine lv_isub hx hb d_M_close_95 ?_
      rw [nI_1] at hP hD
      exact fin _ _ _ _ _ hP hD hS (by rw [nI_1, nI_pred]) d_M_close_96
    | succ k ih =>
      intro x ls H locs hx9 hP hD hS hl
      refine lv_iload_n hx hb d_M_close_23 rfl (lv_at hl 0 rfl) ?_
      refine lv_aload_n hx hb d_M_close_24 rfl (lv_at hl 1 rfl) ?_
      refine va_get (D := D) (ci := 4) (v := .ref ma) (C := R_M) (T := T_M) (N := 12) hx hb hts u_M hown hK hP 0 rfl rfl 10 (by decide) (hts _ f_M_13) (fun _ h9 => h9) rfl d_M_close_25 ?_
      refine va_alen (v := 1024) hx hb hK hP 1 0 rfl rfl rfl d_M_close_28 ?_
      refine lv_icmp_ge (tgt := 65) hx hb d_M_close_29 rfl (fun hc29 => absurd hc29 (nI_ge (b := 1024) (by omega) (by decide))) (fun hc29 => ?_)
      refine lv_iload_n hx hb d_M_close_32 rfl (lv_at hl 0 rfl) ?_
      refine lv_aload_n hx hb d_M_close_33 rfl (lv_at hl 1 rfl) ?_
      refine va_get (D := D) (ci := 4) (v := .int tt) (C := R_M) (T := T_M) (N := 12) hx hb hts u_M hown hK hP 0 rfl rfl 6 (by decide) (hts _ f_M_34) (fun _ h9 => h9) rfl d_M_close_34 ?_
      refine lv_iand hx hb d_M_close_37 ?_
      refine lv_if_ne (tgt := 59) hx hb d_M_close_38 rfl (fun hc38 => ?_) (fun hc38 => ?_)
      · refine lv_iinc (k := 0) (v := (nI (x + 1))) (lv' := [(1, .int (nI (x + 1))), (0, .ref m0)]) hx hb d_M_close_59 hl rfl (nI_1 x) (by decide) rfl (fun ls hl => ?_)
        refine lv_goto (tgt := 23) hx hb d_M_close_62 rfl ?_
        rw [show clo io tt tf x = clo io tt tf (x + 1) from clo_f (fun h => hc38 h.1)] at hP hD
        exact ih (x + 1) ls H locs (by omega) hP hD hS (lv_sub hl [0, 1] rfl)
      · refine lv_iload_n hx hb d_M_close_41 rfl (lv_at hl 0 rfl) ?_
        refine lv_iconst (v := (-1)) hx hb d_M_close_42 (by decide) ?_
        refine lv_ixor hx hb d_M_close_43 ?_
        refine lv_aload_n hx hb d_M_close_44 rfl (lv_at hl 1 rfl) ?_
        refine va_get (D := D) (ci := 4) (v := .int tf) (C := R_M) (T := T_M) (N := 12) hx hb hts u_M hown hK hP 0 rfl rfl 7 (by decide) (hts _ f_M_37) (fun _ h9 => h9) rfl d_M_close_45 ?_
        refine lv_iand hx hb d_M_close_48 ?_
        refine lv_if_ne (tgt := 59) hx hb d_M_close_49 rfl (fun hc49 => ?_) (fun hc49 => ?_)
        · refine lv_iinc (k := 0) (v := (nI (x + 1))) (lv' := [(1, .int (nI (x + 1))), (0, .ref m0)]) hx hb d_M_close_59 hl rfl (nI_1 x) (by decide) rfl (fun ls hl => ?_)
          refine lv_goto (tgt := 23) hx hb d_M_close_62 rfl ?_
          rw [show clo io tt tf x = clo io tt tf (x + 1) from clo_f (fun h => hc49 h.2)] at hP hD
          exact ih (x + 1) ls H locs (by omega) hP hD hS (lv_sub hl [0, 1] rfl)
        · refine lv_aload_n hx hb d_M_close_52 rfl (lv_at hl 1 rfl) ?_
          refine va_get (D := D) (ci := 4) (v := .ref ma) (C := R_M) (T := T_M) (N := 12) hx hb hts u_M hown hK hP 0 rfl rfl 10 (by decide) (hts _ f_M_13) (fun _ h9 => h9) rfl d_M_close_53 ?_
          refine lv_iload_n hx hb d_M_close_56 rfl (lv_at hl 0 rfl) ?_
          refine lv_iconst (v := 1) hx hb d_M_close_57 (by decide) ?_
          refine va_zast (D := D) (i := (nI x)) (x := 1) hx hb hK hP hD hS 1 0 rfl rfl (vp_in_nI (show x < 1024 by omega) (by decide)) d_M_close_58 (fun H locs hP hD hS => ?_)
          rw [show ((nI x) : Int32).toNatClampNeg = x from nI_clamp (by omega)] at hP hD
          have hP : va_P D cls_ [(m0, .inr (4, [.int 0, .int (nI vn), .int (nI kn), .int (nI tn), .int (nI an), .int mo, .int tt, .int tf, .int mt, .int mf, .ref ma, .int (nI mn)])), (ma, .inl (cZ, 1024, .inl (upd (clo io tt tf x) (x) (vp_nar .boolean (1)))))] H := hP
          have hD : va_D A [(m0, .inr (4, [.int 0, .int (nI vn), .int (nI kn), .int (nI tn), .int (nI an), .int mo, .int tt, .int tf, .int mt, .int mf, .ref ma, .int (nI mn)])), (ma, .inl (cZ, 1024, .inl (upd (clo io tt tf x) (x) (vp_nar .boolean (1)))))] := hD
          refine lv_iinc (k := 0) (v := (nI (x + 1))) (lv' := [(1, .int (nI (x + 1))), (0, .ref m0)]) hx hb d_M_close_59 hl rfl (nI_1 x) (by decide) rfl (fun ls hl => ?_)
          refine lv_goto (tgt := 23) hx hb d_M_close_62 rfl ?_
          rw [show upd (clo io tt tf x) x (vp_nar .boolean 1) = clo io tt tf (x + 1) from clo_t ⟨hc38, hc49⟩] at hP hD
          exact ih (x + 1) ls H locs (by omega) hP hD hS (lv_sub hl [0, 1] rfl)
  refine lv_aload_n hx hb d_M_close_0 rfl (lv_at hl 0 rfl) ?_
  refine va_get (D := D) (ci := 4) (v := .int (nI kn)) (C := R_M) (T := T_M) (N := 12) hx hb hts u_M hown hK hP 0 rfl rfl 2 (by decide) (hts _ f_M_40) (fun _ h9 => h9) rfl d_M_close_1 ?_
  refine lv_sipush (v := 500) hx hb d_M_close_4 (by decide +kernel) ?_
  refine lv_icmp_ne (tgt := 16) hx hb d_M_close_7 rfl (fun hc7 => ?_) (fun hc7 => absurd ((nI_eq (b := 500) (by omega) (by decide)).1 hc7) (by omega))
  refine lv_aload_n hx hb d_M_close_16 rfl (lv_at hl 0 rfl) ?_
  refine lv_iconst (v := 0) hx hb d_M_close_17 (by decide) ?_
  refine va_put (D := D) (ci := 4) (v := .int 0) (ty := .int) (C := R_M) (T := T_M) (N := 12) hx hb hts u_M t_M t_M_ok n_M hown hK hP hD hS 0 rfl rfl 0 (by decide) (hts _ f_M_17) (fun _ h9 => h9) rfl (by decide +kernel) rfl rfl (Nat.le_of_ble_eq_true rfl) d_M_close_18 (fun H locs hP hD hS => ?_)
  have hP : va_P D cls_ [(m0, .inr (4, [.int 0, .int (nI vn), .int (nI kn), .int (nI tn), .int (nI an), .int mo, .int tt, .int tf, .int mt, .int mf, .ref ma, .int (nI mn)])), (ma, .inl (cZ, 1024, .inl (io)))] H := hP
  have hD : va_D A [(m0, .inr (4, [.int 0, .int (nI vn), .int (nI kn), .int (nI tn), .int (nI an), .int mo, .int tt, .int tf, .int mt, .int mf, .ref ma, .int (nI mn)])), (ma, .inl (cZ, 1024, .inl (io)))] := hD
  refine lv_iconst (v := 0) hx hb d_M_close_21 (by decide) ?_
  refine lv_istore_n (lv' := [(1, .int 0), (0, .ref m0)]) hx hb d_M_close_22 rfl hl (by decide) rfl (fun ls hl => ?_)
  rw [show io = clo io tt tf 0 from (clo_0 io tt tf).symm] at hP hD
  exact loop 1024 0 ls H locs (by omega) hP hD hS (lv_sub hl [0, 1] rfl)
set_option maxHeartbeats 4000000 in
set_option maxRecDepth 100000 in
theorem k_M_values (l : Launch) (D : va_G) (cZ : ClassId) (m0 ma : Nat) (th : Int32) (vn kn tn an : Nat) (mo tt tf mt mf : Int32) (io : Nat → Int32) (mn : Nat) (hvn : vn ≤ 10) (x : Nat) (hx9 : x < 1024) : KTi l y_M_values c_M_values 4 .int { frames := 0, cells := 0, slots := 0, locals := 0 } D [(cZ, .boolean)] [.ref m0, .int (nI x)] (wM cZ m0 ma th vn kn tn an mo tt tf mt mf io mn) (nI (rv x vn)) (wM cZ m0 ma th vn kn tn an mo tt tf mt mf io mn) := by
  refine KTi_of (own := R_M) (by decide +kernel) rfl (Nat.le_of_ble_eq_true rfl) (vp_nar_int _) ?_
  intro p e st m below meth c A ls Q hx hb hml hts hown hK hP hD hS hA hl fin
  have loop : ∀ (k j : Nat) (ls : Array Slot) (H : Heap) (locs : List Loc), j + k = vn → va_P D cls_ [(m0, .inr (4, [.int th, .int (nI vn), .int (nI kn), .int (nI tn), .int (nI an), .int mo, .int tt, .int tf, .int mt, .int mf, .ref ma, .int (nI mn)])), (ma, .inl (cZ, 1024, .inl (io)))] H → va_D A [(m0, .inr (4, [.int th, .int (nI vn), .int (nI kn), .int (nI tn), .int (nI an), .int mo, .int tt, .int tf, .int mt, .int mf, .ref ma, .int (nI mn)])), (ma, .inl (cZ, 1024, .inl (io)))] → va_S A st.heap H locs → lv_has ls 4 [(3, .int (nI j)), (2, .int (nI (rv x j))), (0, .ref m0), (1, .int (nI x))] → W p l e { frames := 0, cells := 0, slots := 0, locals := 0 } st m [Value.ref m0, Value.int (nI x)].toArray below meth c H locs 0 0 Q (F0 m 4 ls []) := by
    intro k
    induction k with
    | zero =>
      intro j ls H locs hj hP hD hS hl
      have hj : j = vn := by omega
      subst hj
      refine lv_iload_n hx hb d_M_values_4 rfl (lv_at hl 0 rfl) ?_
      refine lv_aload_n hx hb d_M_values_5 rfl (lv_at hl 2 rfl) ?_
      refine va_get (D := D) (ci := 4) (v := .int (nI j)) (C := R_M) (T := T_M) (N := 12) hx hb hts u_M hown hK hP 0 rfl rfl 1 (by decide) (hts _ f_M_20) (fun _ h9 => h9) rfl d_M_values_6 ?_
      refine lv_icmp_ge (tgt := 28) hx hb d_M_values_9 rfl (fun hc9 => ?_) (fun hc9 => absurd (nI_le (by omega) (by omega)) hc9)
      refine lv_iload_n hx hb d_M_values_28 rfl (lv_at hl 1 rfl) ?_
      exact fin _ _ _ _ _ hP hD hS (rfl) d_M_values_29
    | succ k ih =>
      intro j ls H locs hj hP hD hS hl
      refine lv_iload_n hx hb d_M_values_4 rfl (lv_at hl 0 rfl) ?_
      refine lv_aload_n hx hb d_M_values_5 rfl (lv_at hl 2 rfl) ?_
      refine va_get (D := D) (ci := 4) (v := .int (nI vn)) (C := R_M) (T := T_M) (N := 12) hx hb hts u_M hown hK hP 0 rfl rfl 1 (by decide) (hts _ f_M_20) (fun _ h9 => h9) rfl d_M_values_6 ?_
      refine lv_icmp_ge (tgt := 28) hx hb d_M_values_9 rfl (fun hc9 => absurd hc9 (nI_ge (by omega) (by omega))) (fun hc9 => ?_)
      refine lv_iload_n hx hb d_M_values_12 rfl (lv_at hl 1 rfl) ?_
      refine lv_iconst (v := 1) hx hb d_M_values_13 (by decide) ?_
      refine lv_ishl hx hb d_M_values_14 ?_
      refine lv_iload_n hx hb d_M_values_15 rfl (lv_at hl 3 rfl) ?_
      refine lv_iload_n hx hb d_M_values_16 rfl (lv_at hl 0 rfl) ?_
      refine lv_ishr hx hb d_M_values_17 ?_
      refine lv_iconst (v := 1) hx hb d_M_values_18 (by decide) ?_
      refine lv_iand hx hb d_M_values_19 ?_
      refine lv_ior hx hb d_M_values_20 ?_
      rw [val_step (show j < 10 by omega) hx9 (show rv x j < 512 from Nat.lt_of_lt_of_le (rv_lt x j) (show 2 ^ j ≤ 2 ^ 9 from Nat.pow_le_pow_right (by omega) (by omega)))]
      refine lv_istore_n (lv' := [(2, .int (nI (rv x (j + 1)))), (3, .int (nI j)), (0, .ref m0), (1, .int (nI x))]) hx hb d_M_values_21 rfl hl (by decide) rfl (fun ls hl => ?_)
      refine lv_iinc (k := 1) (v := (nI (j + 1))) (lv' := [(3, .int (nI (j + 1))), (2, .int (nI (rv x (j + 1)))), (0, .ref m0), (1, .int (nI x))]) hx hb d_M_values_22 hl rfl (nI_1 j) (by decide) rfl (fun ls hl => ?_)
      refine lv_goto (tgt := 4) hx hb d_M_values_25 rfl ?_
      exact ih (j + 1) ls H locs (by omega) hP hD hS (lv_sub hl [0, 1, 2, 3] rfl)
  refine lv_iconst (v := 0) hx hb d_M_values_0 (by decide) ?_
  refine lv_istore_n (lv' := [(2, .int 0), (0, .ref m0), (1, .int (nI x))]) hx hb d_M_values_1 rfl hl (by decide) rfl (fun ls hl => ?_)
  refine lv_iconst (v := 0) hx hb d_M_values_2 (by decide) ?_
  refine lv_istore_n (lv' := [(3, .int 0), (2, .int 0), (0, .ref m0), (1, .int (nI x))]) hx hb d_M_values_3 rfl hl (by decide) rfl (fun ls hl => ?_)
  exact loop vn 0 ls st.heap [] (by omega) hP hD hS (lv_sub hl [0, 1, 2, 3] rfl)
set_option maxHeartbeats 4000000 in
set_option maxRecDepth 100000 in
theorem k_M_isTrue (l : Launch) (D : va_G) (cZ : ClassId) (m0 ma : Nat) (th : Int32) (vn kn tn an : Nat) (mo tt tf mt mf : Int32) (io : Nat → Int32) (mn : Nat) (hvn : vn ≤ 10) (y : Int32) (x : Nat) (hx9 : x < 1024) : KTi l y_M_isTrue c_M_isTrue 3 .boolean { frames := 1, cells := 0, slots := 0, locals := 23 } D [(cZ, .boolean)] [.ref m0, .int y, .int (nI x)] (wM cZ m0 ma th vn kn tn an mo tt tf mt mf io mn) (itv y (nI (rv x vn))) (wM cZ m0 ma th vn kn tn an mo tt tf mt mf io mn) := by
  refine KTi_of (own := R_M) (by decide +kernel) rfl (Nat.le_of_ble_eq_true rfl) (nar_if _) ?_
  intro p e st m below meth c A ls Q hx hb hml hts hown hK hP hD hS hA hl fin
  refine lv_aload_n hx hb d_M_isTrue_0 rfl (lv_at hl 0 rfl) ?_
  refine lv_iload_n hx hb d_M_isTrue_1 rfl (lv_at hl 2 rfl) ?_
  refine CTi_V (isC := [0, 1]) (isR := []) (wr := []) (wi := [(m0, .inr (4, [.int th, .int (nI vn), .int (nI kn), .int (nI tn), .int (nI an), .int mo, .int tt, .int tf, .int mt, .int mf, .ref ma, .int (nI mn)])), (ma, .inl (cZ, 1024, .inl (io)))]) (wo := [(m0, .inr (4, [.int th, .int (nI vn), .int (nI kn), .int (nI tn), .int (nI an), .int mo, .int tt, .int tf, .int mt, .int mf, .ref ma, .int (nI mn)])), (ma, .inl (cZ, 1024, .inl (io)))]) (b := m0) (As := [.int (nI x)]) (rest := []) ⟨hx, hb, hml, hown, hts⟩ [0] (k_M_values l D cZ m0 ma th vn kn tn an mo tt tf mt mf io mn hvn x hx9) (cwV 1 hts v_M_52 rfl rfl rfl (by decide +kernel) ⟨Nat.le_of_ble_eq_true rfl, Nat.le_of_ble_eq_true rfl⟩) ⟨rfl, rfl, rfl, rfl, by decide⟩ rfl hK hP hD hS hA (va_recv (ci := 4) hK hP rfl (q0 := 0) rfl) rfl hl.1 (Nat.le_of_ble_eq_true rfl) d_M_isTrue_2 ⟨Nat.le_of_ble_eq_true rfl, Nat.le_of_ble_eq_true rfl⟩ (fun H locs hP hD hS => ?_)
  have hP : va_P D cls_ [(m0, .inr (4, [.int th, .int (nI vn), .int (nI kn), .int (nI tn), .int (nI an), .int mo, .int tt, .int tf, .int mt, .int mf, .ref ma, .int (nI mn)])), (ma, .inl (cZ, 1024, .inl (io)))] H := hP
  have hD : va_D A [(m0, .inr (4, [.int th, .int (nI vn), .int (nI kn), .int (nI tn), .int (nI an), .int mo, .int tt, .int tf, .int mt, .int mf, .ref ma, .int (nI mn)])), (ma, .inl (cZ, 1024, .inl (io)))] := hD
  refine lv_iload_n hx hb d_M_isTrue_5 rfl (lv_at hl 1 rfl) ?_
  refine lv_if_ge (tgt := 14) hx hb d_M_isTrue_6 rfl (fun hc6 => ?_) (fun hc6 => ?_)
  · refine lv_iload_n hx hb d_M_isTrue_14 rfl (lv_at hl 1 rfl) ?_
    refine lv_iconst (v := 1) hx hb d_M_isTrue_15 (by decide) ?_
    refine lv_isub hx hb d_M_isTrue_16 ?_
    refine lv_ishr hx hb d_M_isTrue_17 ?_
    refine lv_iconst (v := 1) hx hb d_M_isTrue_18 (by decide) ?_
    refine lv_iand hx hb d_M_isTrue_19 ?_
    refine lv_if_eq (tgt := 27) hx hb d_M_isTrue_20 rfl (fun hc20 => ?_) (fun hc20 => ?_)
    · refine lv_iconst (v := 0) hx hb d_M_isTrue_27 (by decide) ?_
      refine lv_iload_n hx hb d_M_isTrue_28 rfl (lv_at hl 1 rfl) ?_
      refine lv_if_le (tgt := 36) hx hb d_M_isTrue_29 rfl (fun hc29 => ?_) (fun hc29 => ?_)
      · refine lv_iconst (v := 0) hx hb d_M_isTrue_36 (by decide) ?_
        refine lv_icmp_ne (tgt := 44) hx hb d_M_isTrue_37 rfl (fun hc37 => ?_) (fun hc37 => ?_)
        · refine lv_iconst (v := 0) hx hb d_M_isTrue_44 (by decide) ?_
          exact fin _ _ _ _ _ hP hD hS (by unfold itv; rw [if_pos (hc6), if_pos (hc20), if_neg (Int32.not_lt.mpr hc29), if_neg (hc37)]) d_M_isTrue_45
        · refine lv_iconst (v := 1) hx hb d_M_isTrue_40 (by decide) ?_
          refine lv_goto (tgt := 45) hx hb d_M_isTrue_41 rfl ?_
          exact fin _ _ _ _ _ hP hD hS (by unfold itv; rw [if_pos (hc6), if_pos (hc20), if_neg (Int32.not_lt.mpr hc29), if_pos (hc37)]) d_M_isTrue_45
      · refine lv_iconst (v := 1) hx hb d_M_isTrue_32 (by decide) ?_
        refine lv_goto (tgt := 37) hx hb d_M_isTrue_33 rfl ?_
        refine lv_icmp_ne (tgt := 44) hx hb d_M_isTrue_37 rfl (fun hc37 => ?_) (fun hc37 => ?_)
        · refine lv_iconst (v := 0) hx hb d_M_isTrue_44 (by decide) ?_
          exact fin _ _ _ _ _ hP hD hS (by unfold itv; rw [if_pos (hc6), if_pos (hc20), if_pos (Int32.not_le.mp hc29), if_neg (hc37)]) d_M_isTrue_45
        · refine lv_iconst (v := 1) hx hb d_M_isTrue_40 (by decide) ?_
          refine lv_goto (tgt := 45) hx hb d_M_isTrue_41 rfl ?_
          exact fin _ _ _ _ _ hP hD hS (by unfold itv; rw [if_pos (hc6), if_pos (hc20), if_pos (Int32.not_le.mp hc29), if_pos (hc37)]) d_M_isTrue_45
    · refine lv_iconst (v := 1) hx hb d_M_isTrue_23 (by decide) ?_
      refine lv_goto (tgt := 28) hx hb d_M_isTrue_24 rfl ?_
      refine lv_iload_n hx hb d_M_isTrue_28 rfl (lv_at hl 1 rfl) ?_
      refine lv_if_le (tgt := 36) hx hb d_M_isTrue_29 rfl (fun hc29 => ?_) (fun hc29 => ?_)
      · refine lv_iconst (v := 0) hx hb d_M_isTrue_36 (by decide) ?_
        refine lv_icmp_ne (tgt := 44) hx hb d_M_isTrue_37 rfl (fun hc37 => ?_) (fun hc37 => ?_)
        · refine lv_iconst (v := 0) hx hb d_M_isTrue_44 (by decide) ?_
          exact fin _ _ _ _ _ hP hD hS (by unfold itv; rw [if_pos (hc6), if_neg (hc20), if_neg (Int32.not_lt.mpr hc29), if_neg (hc37)]) d_M_isTrue_45
        · refine lv_iconst (v := 1) hx hb d_M_isTrue_40 (by decide) ?_
          refine lv_goto (tgt := 45) hx hb d_M_isTrue_41 rfl ?_
          exact fin _ _ _ _ _ hP hD hS (by unfold itv; rw [if_pos (hc6), if_neg (hc20), if_neg (Int32.not_lt.mpr hc29), if_pos (hc37)]) d_M_isTrue_45
      · refine lv_iconst (v := 1) hx hb d_M_isTrue_32 (by decide) ?_
        refine lv_goto (tgt := 37) hx hb d_M_isTrue_33 rfl ?_
        refine lv_icmp_ne (tgt := 44) hx hb d_M_isTrue_37 rfl (fun hc37 => ?_) (fun hc37 => ?_)
        · refine lv_iconst (v := 0) hx hb d_M_isTrue_44 (by decide) ?_
          exact fin _ _ _ _ _ hP hD hS (by unfold itv; rw [if_pos (hc6), if_neg (hc20), if_pos (Int32.not_le.mp hc29), if_neg (hc37)]) d_M_isTrue_45
        · refine lv_iconst (v := 1) hx hb d_M_isTrue_40 (by decide) ?_
          refine lv_goto (tgt := 45) hx hb d_M_isTrue_41 rfl ?_
          exact fin _ _ _ _ _ hP hD hS (by unfold itv; rw [if_pos (hc6), if_neg (hc20), if_pos (Int32.not_le.mp hc29), if_pos (hc37)]) d_M_isTrue_45
  · refine lv_iload_n hx hb d_M_isTrue_9 rfl (lv_at hl 1 rfl) ?_
    refine lv_ineg hx hb d_M_isTrue_10 ?_
    refine lv_goto (tgt := 15) hx hb d_M_isTrue_11 rfl ?_
    refine lv_iconst (v := 1) hx hb d_M_isTrue_15 (by decide) ?_
    refine lv_isub hx hb d_M_isTrue_16 ?_
    refine lv_ishr hx hb d_M_isTrue_17 ?_
    refine lv_iconst (v := 1) hx hb d_M_isTrue_18 (by decide) ?_
    refine lv_iand hx hb d_M_isTrue_19 ?_
    refine lv_if_eq (tgt := 27) hx hb d_M_isTrue_20 rfl (fun hc20 => ?_) (fun hc20 => ?_)
    · refine lv_iconst (v := 0) hx hb d_M_isTrue_27 (by decide) ?_
      refine lv_iload_n hx hb d_M_isTrue_28 rfl (lv_at hl 1 rfl) ?_
      refine lv_if_le (tgt := 36) hx hb d_M_isTrue_29 rfl (fun hc29 => ?_) (fun hc29 => ?_)
      · refine lv_iconst (v := 0) hx hb d_M_isTrue_36 (by decide) ?_
        refine lv_icmp_ne (tgt := 44) hx hb d_M_isTrue_37 rfl (fun hc37 => ?_) (fun hc37 => ?_)
        · refine lv_iconst (v := 0) hx hb d_M_isTrue_44 (by decide) ?_
          exact fin _ _ _ _ _ hP hD hS (by unfold itv; rw [if_neg (hc6), if_pos (hc20), if_neg (Int32.not_lt.mpr hc29), if_neg (hc37)]) d_M_isTrue_45
        · refine lv_iconst (v := 1) hx hb d_M_isTrue_40 (by decide) ?_
          refine lv_goto (tgt := 45) hx hb d_M_isTrue_41 rfl ?_
          exact fin _ _ _ _ _ hP hD hS (by unfold itv; rw [if_neg (hc6), if_pos (hc20), if_neg (Int32.not_lt.mpr hc29), if_pos (hc37)]) d_M_isTrue_45
      · refine lv_iconst (v := 1) hx hb d_M_isTrue_32 (by decide) ?_
        refine lv_goto (tgt := 37) hx hb d_M_isTrue_33 rfl ?_
        refine lv_icmp_ne (tgt := 44) hx hb d_M_isTrue_37 rfl (fun hc37 => ?_) (fun hc37 => ?_)
        · refine lv_iconst (v := 0) hx hb d_M_isTrue_44 (by decide) ?_
          exact fin _ _ _ _ _ hP hD hS (by unfold itv; rw [if_neg (hc6), if_pos (hc20), if_pos (Int32.not_le.mp hc29), if_neg (hc37)]) d_M_isTrue_45
        · refine lv_iconst (v := 1) hx hb d_M_isTrue_40 (by decide) ?_
          refine lv_goto (tgt := 45) hx hb d_M_isTrue_41 rfl ?_
          exact fin _ _ _ _ _ hP hD hS (by unfold itv; rw [if_neg (hc6), if_pos (hc20), if_pos (Int32.not_le.mp hc29), if_pos (hc37)]) d_M_isTrue_45
    · refine lv_iconst (v := 1) hx hb d_M_isTrue_23 (by decide) ?_
      refine lv_goto (tgt := 28) hx hb d_M_isTrue_24 rfl ?_
      refine lv_iload_n hx hb d_M_isTrue_28 rfl (lv_at hl 1 rfl) ?_
      refine lv_if_le (tgt := 36) hx hb d_M_isTrue_29 rfl (fun hc29 => ?_) (fun hc29 => ?_)
      · refine lv_iconst (v := 0) hx hb d_M_isTrue_36 (by decide) ?_
        refine lv_icmp_ne (tgt := 44) hx hb d_M_isTrue_37 rfl (fun hc37 => ?_) (fun hc37 => ?_)
        · refine lv_iconst (v := 0) hx hb d_M_isTrue_44 (by decide) ?_
          exact fin _ _ _ _ _ hP hD hS (by unfold itv; rw [if_neg (hc6), if_neg (hc20), if_neg (Int32.not_lt.mpr hc29), if_neg (hc37)]) d_M_isTrue_45
        · refine lv_iconst (v := 1) hx hb d_M_isTrue_40 (by decide) ?_
          refine lv_goto (tgt := 45) hx hb d_M_isTrue_41 rfl ?_
          exact fin _ _ _ _ _ hP hD hS (by unfold itv; rw [if_neg (hc6), if_neg (hc20), if_neg (Int32.not_lt.mpr hc29), if_pos (hc37)]) d_M_isTrue_45
      · refine lv_iconst (v := 1) hx hb d_M_isTrue_32 (by decide) ?_
        refine lv_goto (tgt := 37) hx hb d_M_isTrue_33 rfl ?_
        refine lv_icmp_ne (tgt := 44) hx hb d_M_isTrue_37 rfl (fun hc37 => ?_) (fun hc37 => ?_)
        · refine lv_iconst (v := 0) hx hb d_M_isTrue_44 (by decide) ?_
          exact fin _ _ _ _ _ hP hD hS (by unfold itv; rw [if_neg (hc6), if_neg (hc20), if_pos (Int32.not_le.mp hc29), if_neg (hc37)]) d_M_isTrue_45
        · refine lv_iconst (v := 1) hx hb d_M_isTrue_40 (by decide) ?_
          refine lv_goto (tgt := 45) hx hb d_M_isTrue_41 rfl ?_
          exact fin _ _ _ _ _ hP hD hS (by unfold itv; rw [if_neg (hc6), if_neg (hc20), if_pos (Int32.not_le.mp hc29), if_pos (hc37)]) d_M_isTrue_45
set_option maxHeartbeats 4000000 in
set_option maxRecDepth 100000 in
theorem k_M_isModel (l : Launch) (D : va_G) (cZ : ClassId) (m0 ma : Nat) (th : Int32) (vn kn tn an : Nat) (mo tt tf mt mf : Int32) (io : Nat → Int32) (mn : Nat) (hvn : vn ≤ 10) (x : Nat) (hx9 : x < 1024) : KTi l y_M_isModel c_M_isModel 3 .boolean { frames := 1, cells := 0, slots := 0, locals := 23 } D [(cZ, .boolean)] [.ref m0, .int (nI x)] (wM cZ m0 ma th vn kn tn an mo tt tf mt mf io mn) (if rmB io mt mf (rv x vn) = true then 1 else 0) (wM cZ m0 ma th vn kn tn an mo tt tf mt mf io mn) := by
  refine KTi_of (own := R_M) (by decide +kernel) rfl (Nat.le_of_ble_eq_true rfl) (nar_if _) ?_
  intro p e st m below meth c A ls Q hx hb hml hts hown hK hP hD hS hA hl fin
  refine lv_aload_n hx hb d_M_isModel_0 rfl (lv_at hl 0 rfl) ?_
  refine lv_iload_n hx hb d_M_isModel_1 rfl (lv_at hl 1 rfl) ?_
  refine CTi_V (isC := [0, 1]) (isR := []) (wr := []) (wi := [(m0, .inr (4, [.int th, .int (nI vn), .int (nI kn), .int (nI tn), .int (nI an), .int mo, .int tt, .int tf, .int mt, .int mf, .ref ma, .int (nI mn)])), (ma, .inl (cZ, 1024, .inl (io)))]) (wo := [(m0, .inr (4, [.int th, .int (nI vn), .int (nI kn), .int (nI tn), .int (nI an), .int mo, .int tt, .int tf, .int mt, .int mf, .ref ma, .int (nI mn)])), (ma, .inl (cZ, 1024, .inl (io)))]) (b := m0) (As := [.int (nI x)]) (rest := []) ⟨hx, hb, hml, hown, hts⟩ [0] (k_M_values l D cZ m0 ma th vn kn tn an mo tt tf mt mf io mn hvn x hx9) (cwV 1 hts v_M_52 rfl rfl rfl (by decide +kernel) ⟨Nat.le_of_ble_eq_true rfl, Nat.le_of_ble_eq_true rfl⟩) ⟨rfl, rfl, rfl, rfl, by decide⟩ rfl hK hP hD hS hA (va_recv (ci := 4) hK hP rfl (q0 := 0) rfl) rfl hl.1 (Nat.le_of_ble_eq_true rfl) d_M_isModel_2 ⟨Nat.le_of_ble_eq_true rfl, Nat.le_of_ble_eq_true rfl⟩ (fun H locs hP hD hS => ?_)
  have hP : va_P D cls_ [(m0, .inr (4, [.int th, .int (nI vn), .int (nI kn), .int (nI tn), .int (nI an), .int mo, .int tt, .int tf, .int mt, .int mf, .ref ma, .int (nI mn)])), (ma, .inl (cZ, 1024, .inl (io)))] H := hP
  have hD : va_D A [(m0, .inr (4, [.int th, .int (nI vn), .int (nI kn), .int (nI tn), .int (nI an), .int mo, .int tt, .int tf, .int mt, .int mf, .ref ma, .int (nI mn)])), (ma, .inl (cZ, 1024, .inl (io)))] := hD
  refine lv_istore_n (lv' := [(2, .int (nI (rv x vn))), (0, .ref m0), (1, .int (nI x))]) hx hb d_M_isModel_5 rfl hl (by decide) rfl (fun ls hl => ?_)
  refine lv_aload_n hx hb d_M_isModel_6 rfl (lv_at hl 1 rfl) ?_
  refine va_get (D := D) (ci := 4) (v := .ref ma) (C := R_M) (T := T_M) (N := 12) hx hb hts u_M hown hK hP 0 rfl rfl 10 (by decide) (hts _ f_M_13) (fun _ h9 => h9) rfl d_M_isModel_7 ?_
  refine lv_iload_n hx hb d_M_isModel_10 rfl (lv_at hl 0 rfl) ?_
  refine va_zald (D := D) (i := (nI (rv x vn))) hx hb hK hP 1 0 rfl rfl (vp_in_nI (rv_1024 hvn) (by decide)) d_M_isModel_11 ?_
  rw [show ((nI (rv x vn)) : Int32).toNatClampNeg = (rv x vn) from nI_clamp (Nat.lt_trans (rv_1024 hvn) (by decide))]
  refine lv_if_ne (tgt := 41) hx hb d_M_isModel_12 rfl (fun hc12 => ?_) (fun hc12 => ?_)
  · refine lv_iconst (v := 0) hx hb d_M_isModel_41 (by decide) ?_
    exact fin _ _ _ _ _ hP hD hS ((if_neg (fun h => hc12 (rmB_iff.1 h).1)).symm) d_M_isModel_42
  · refine lv_iload_n hx hb d_M_isModel_15 rfl (lv_at hl 0 rfl) ?_
    refine lv_aload_n hx hb d_M_isModel_16 rfl (lv_at hl 1 rfl) ?_
    refine va_get (D := D) (ci := 4) (v := .int mt) (C := R_M) (T := T_M) (N := 12) hx hb hts u_M hown hK hP 0 rfl rfl 8 (by decide) (hts _ f_M_46) (fun _ h9 => h9) rfl d_M_isModel_17 ?_
    refine lv_iand hx hb d_M_isModel_20 ?_
    refine lv_aload_n hx hb d_M_isModel_21 rfl (lv_at hl 1 rfl) ?_
    refine va_get (D := D) (ci := 4) (v := .int mt) (C := R_M) (T := T_M) (N := 12) hx hb hts u_M hown hK hP 0 rfl rfl 8 (by decide) (hts _ f_M_46) (fun _ h9 => h9) rfl d_M_isModel_22 ?_
    refine lv_icmp_ne (tgt := 41) hx hb d_M_isModel_25 rfl (fun hc25 => ?_) (fun hc25 => ?_)
    · refine lv_iconst (v := 0) hx hb d_M_isModel_41 (by decide) ?_
      exact fin _ _ _ _ _ hP hD hS ((if_neg (fun h => hc25 (rmB_iff.1 h).2.1)).symm) d_M_isModel_42
    · refine lv_iload_n hx hb d_M_isModel_28 rfl (lv_at hl 0 rfl) ?_
      refine lv_aload_n hx hb d_M_isModel_29 rfl (lv_at hl 1 rfl) ?_
      refine va_get (D := D) (ci := 4) (v := .int mf) (C := R_M) (T := T_M) (N := 12) hx hb hts u_M hown hK hP 0 rfl rfl 9 (by decide) (hts _ f_M_49) (fun _ h9 => h9) rfl d_M_isModel_30 ?_
      refine lv_iand hx hb d_M_isModel_33 ?_
      refine lv_if_ne (tgt := 41) hx hb d_M_isModel_34 rfl (fun hc34 => ?_) (fun hc34 => ?_)
      · refine lv_iconst (v := 0) hx hb d_M_isModel_41 (by decide) ?_
        exact fin _ _ _ _ _ hP hD hS ((if_neg (fun h => hc34 (rmB_iff.1 h).2.2)).symm) d_M_isModel_42
      · refine lv_iconst (v := 1) hx hb d_M_isModel_37 (by decide) ?_
        refine lv_goto (tgt := 42) hx hb d_M_isModel_38 rfl ?_
        exact fin _ _ _ _ _ hP hD hS ((if_pos (rmB_iff.2 ⟨hc12, hc25, hc34⟩)).symm) d_M_isModel_42
set_option maxHeartbeats 4000000 in
set_option maxRecDepth 100000 in
theorem k_M_solve (l : Launch) (D : va_G) (cZ : ClassId) (m0 ma : Nat) (th : Int32) (vn kn tn an : Nat) (mo tt tf mt mf : Int32) (io : Nat → Int32) (mn : Nat) (hvn : vn ≤ 10) : KTi l y_M_solve c_M_solve 2 .boolean { frames := 2, cells := 0, slots := 0, locals := 45 } D [(cZ, .boolean)] [.ref m0] (wM cZ m0 ma th vn kn tn an mo tt tf mt mf io mn) (if slv (fun x => rmB io mt mf (rv x vn)) (2 ^ vn) 0 < 0 then 0 else 1) (wM cZ m0 ma 0 vn kn tn 0 ((slv (fun x => rmB io mt mf (rv x vn)) (2 ^ vn) 0)) tt tf 0 0 io vn) := by
  refine KTi_of (own := R_M) (by decide +kernel) rfl (Nat.le_of_ble_eq_true rfl) (nar_if2 _) ?_
  intro p e st m below meth c A ls Q hx hb hml hts hown hK hP hD hS hA hl fin
  have hpw : 2 ^ vn ≤ 1024 := pw_le hvn
  generalize hT : slv (fun x => rmB io mt mf (rv x vn)) (2 ^ vn) 0 = res at fin
  have ex : ∀ (ls : Array Slot) (H : Heap) (locs : List Loc), va_P D cls_ [(m0, .inr (4, [.int 0, .int (nI vn), .int (nI kn), .int (nI tn), .int (nI an), .int res, .int tt, .int tf, .int mt, .int mf, .ref ma, .int (nI vn)])), (ma, .inl (cZ, 1024, .inl (io)))] H → va_D A [(m0, .inr (4, [.int 0, .int (nI vn), .int (nI kn), .int (nI tn), .int (nI an), .int res, .int tt, .int tf, .int mt, .int mf, .ref ma, .int (nI vn)])), (ma, .inl (cZ, 1024, .inl (io)))] → va_S A st.heap H locs → lv_has ls 2 [(0, .ref m0)] → W p l e { frames := 2, cells := 0, slots := 0, locals := 45 } st m [Value.ref m0].toArray below meth c H locs 0 0 Q (F0 m 56 ls []) := by
    intro ls H locs hP hD hS hl
    refine lv_aload_n hx hb d_M_solve_56 rfl (lv_at hl 0 rfl) ?_
    refine CTv_V (isC := [0, 1]) (isR := []) (wr := []) (wi := [(m0, .inr (4, [.int 0, .int (nI vn), .int (nI kn), .int (nI tn), .int (nI an), .int res, .int tt, .int tf, .int mt, .int mf, .ref ma, .int (nI vn)])), (ma, .inl (cZ, 1024, .inl (io)))]) (wo := [(m0, .inr (4, [.int 0, .int (nI vn), .int (nI kn), .int (nI tn), .int (nI 0), .int res, .int tt, .int tf, .int 0, .int 0, .ref ma, .int (nI vn)])), (ma, .inl (cZ, 1024, .inl (io)))]) (b := m0) (As := []) (rest := []) ⟨hx, hb, hml, hown, hts⟩ [0] (k_M_forget l D cZ m0 ma 0 vn kn tn an res tt tf mt mf io vn) (cwV 0 hts v_M_61 rfl rfl rfl (by decide +kernel) ⟨Nat.le_of_ble_eq_true rfl, Nat.le_of_ble_eq_true rfl⟩) ⟨rfl, rfl, rfl, rfl, by decide⟩ rfl hK hP hD hS hA (va_recv (ci := 4) hK hP rfl (q0 := 0) rfl) rfl hl.1 (Nat.le_of_ble_eq_true rfl) d_M_solve_57 ⟨Nat.le_of_ble_eq_true rfl, Nat.le_of_ble_eq_true rfl⟩ (fun H locs hP hD hS => ?_)
    have hP : va_P D cls_ [(m0, .inr (4, [.int 0, .int (nI vn), .int (nI kn), .int (nI tn), .int (nI 0), .int res, .int tt, .int tf, .int 0, .int 0, .ref ma, .int (nI vn)])), (ma, .inl (cZ, 1024, .inl (io)))] H := hP
    have hD : va_D A [(m0, .inr (4, [.int 0, .int (nI vn), .int (nI kn), .int (nI tn), .int (nI 0), .int res, .int tt, .int tf, .int 0, .int 0, .ref ma, .int (nI vn)])), (ma, .inl (cZ, 1024, .inl (io)))] := hD
    refine lv_aload_n hx hb d_M_solve_60 rfl (lv_at hl 0 rfl) ?_
    refine va_get (D := D) (ci := 4) (v := .int res) (C := R_M) (T := T_M) (N := 12) hx hb hts u_M hown hK hP 0 rfl rfl 5 (by decide) (hts _ f_M_7) (fun _ h9 => h9) rfl d_M_solve_61 ?_
    refine lv_if_lt (tgt := 71) hx hb d_M_solve_64 rfl (fun hc64 => ?_) (fun hc64 => ?_)
    · refine lv_iconst (v := 0) hx hb d_M_solve_71 (by decide) ?_
      exact fin _ _ _ _ _ hP hD hS ((if_pos hc64).symm) d_M_solve_72
    · refine lv_iconst (v := 1) hx hb d_M_solve_67 (by decide) ?_
      refine lv_goto (tgt := 72) hx hb d_M_solve_68 rfl ?_
      exact fin _ _ _ _ _ hP hD hS ((if_neg hc64).symm) d_M_solve_72
  have loop : ∀ (k x : Nat) (ls : Array Slot) (H : Heap) (locs : List Loc), x + k = 2 ^ vn → slv (fun x => rmB io mt mf (rv x vn)) k x = res → va_P D cls_ [(m0, .inr (4, [.int 0, .int (nI vn), .int (nI kn), .int (nI tn), .int (nI an), .int ((-1)), .int tt, .int tf, .int mt, .int mf, .ref ma, .int (nI vn)])), (ma, .inl (cZ, 1024, .inl (io)))] H → va_D A [(m0, .inr (4, [.int 0, .int (nI vn), .int (nI kn), .int (nI tn), .int (nI an), .int ((-1)), .int tt, .int tf, .int mt, .int mf, .ref ma, .int (nI vn)])), (ma, .inl (cZ, 1024, .inl (io)))] → va_S A st.heap H locs → lv_has ls 2 [(1, .int (nI x)), (0, .ref m0)] → W p l e { frames := 2, cells := 0, slots := 0, locals := 45 } st m [Value.ref m0].toArray below meth c H locs 0 0 Q (F0 m 20 ls []) := by
    intro k
    induction k with
    | zero =>
      intro x ls H locs hx9 he hP hD hS hl
      have he : (-1 : Int32) = res := he
      subst he
      refine lv_iload_n hx hb d_M_solve_20 rfl (lv_at hl 0 rfl) ?_
      refine lv_iconst (v := 1) hx hb d_M_solve_21 (by decide) ?_
      refine lv_aload_n hx hb d_M_solve_22 rfl (lv_at hl 1 rfl) ?_
      refine va_get (D := D) (ci := 4) (v := .int (nI vn)) (C := R_M) (T := T_M) (N := 12) hx hb hts u_M hown hK hP 0 rfl rfl 1 (by decide) (hts _ f_M_20) (fun _ h9 => h9) rfl d_M_solve_23 ?_
      refine lv_ishl hx hb d_M_solve_26 ?_
      rw [sh1 hvn]
      refine lv_icmp_ge (tgt := 56) hx hb d_M_solve_27 rfl (fun hc27 => ?_) (fun hc27 => absurd (nI_le (by omega) (by omega)) hc27)
      exact ex ls H locs hP hD hS (lv_sub hl [1] rfl)
    | succ k ih =>
      intro x ls H locs hx9 he hP hD hS hl
      refine lv_iload_n hx hb d_M_solve_20 rfl (lv_at hl 0 rfl) ?_
      refine lv_iconst (v := 1) hx hb d_M_solve_21 (by decide) ?_
      refine lv_aload_n hx hb d_M_solve_22 rfl (lv_at hl 1 rfl) ?_
      refine va_get (D := D) (ci := 4) (v := .int (nI vn)) (C := R_M) (T := T_M) (N := 12) hx hb hts u_M hown hK hP 0 rfl rfl 1 (by decide) (hts _ f_M_20) (fun _ h9 => h9) rfl d_M_solve_23 ?_
      refine lv_ishl hx hb d_M_solve_26 ?_
      rw [sh1 hvn]
      refine lv_icmp_ge (tgt := 56) hx hb d_M_solve_27 rfl (fun hc27 => absurd hc27 (nI_ge (by omega) (by omega))) (fun hc27 => ?_)
      refine lv_aload_n hx hb d_M_solve_30 rfl (lv_at hl 1 rfl) ?_
      refine va_get (D := D) (ci := 4) (v := .int ((-1))) (C := R_M) (T := T_M) (N := 12) hx hb hts u_M hown hK hP 0 rfl rfl 5 (by decide) (hts _ f_M_7) (fun _ h9 => h9) rfl d_M_solve_31 ?_
      refine lv_if_ge (tgt := 56) hx hb d_M_solve_34 rfl (fun hc34 => absurd hc34 (by decide)) (fun hc34 => ?_)
      refine lv_aload_n hx hb d_M_solve_37 rfl (lv_at hl 1 rfl) ?_
      refine lv_iload_n hx hb d_M_solve_38 rfl (lv_at hl 0 rfl) ?_
      refine CTi_V (isC := [0, 1]) (isR := []) (wr := []) (wi := [(m0, .inr (4, [.int 0, .int (nI vn), .int (nI kn), .int (nI tn), .int (nI an), .int ((-1)), .int tt, .int tf, .int mt, .int mf, .ref ma, .int (nI vn)])), (ma, .inl (cZ, 1024, .inl (io)))]) (wo := [(m0, .inr (4, [.int 0, .int (nI vn), .int (nI kn), .int (nI tn), .int (nI an), .int ((-1)), .int tt, .int tf, .int mt, .int mf, .ref ma, .int (nI vn)])), (ma, .inl (cZ, 1024, .inl (io)))]) (b := m0) (As := [.int (nI x)]) (rest := []) ⟨hx, hb, hml, hown, hts⟩ [0] (k_M_isModel l D cZ m0 ma 0 vn kn tn an ((-1)) tt tf mt mf io vn hvn x (show x < 1024 by omega)) (cwV 1 hts v_M_58 rfl rfl rfl (by decide +kernel) ⟨Nat.le_of_ble_eq_true rfl, Nat.le_of_ble_eq_true rfl⟩) ⟨rfl, rfl, rfl, rfl, by decide⟩ rfl hK hP hD hS hA (va_recv (ci := 4) hK hP rfl (q0 := 0) rfl) rfl hl.1 (Nat.le_of_ble_eq_true rfl) d_M_solve_39 ⟨Nat.le_of_ble_eq_true rfl, Nat.le_of_ble_eq_true rfl⟩ (fun H locs hP hD hS => ?_)
      have hP : va_P D cls_ [(m0, .inr (4, [.int 0, .int (nI vn), .int (nI kn), .int (nI tn), .int (nI an), .int ((-1)), .int tt, .int tf, .int mt, .int mf, .ref ma, .int (nI vn)])), (ma, .inl (cZ, 1024, .inl (io)))] H := hP
      have hD : va_D A [(m0, .inr (4, [.int 0, .int (nI vn), .int (nI kn), .int (nI tn), .int (nI an), .int ((-1)), .int tt, .int tf, .int mt, .int mf, .ref ma, .int (nI vn)])), (ma, .inl (cZ, 1024, .inl (io)))] := hD
      refine lv_if_eq (tgt := 50) hx hb d_M_solve_42 rfl (fun hc42 => ?_) (fun hc42 => ?_)
      · refine lv_iinc (k := 0) (v := (nI (x + 1))) (lv' := [(1, .int (nI (x + 1))), (0, .ref m0)]) hx hb d_M_solve_50 hl rfl (nI_1 x) (by decide) rfl (fun ls hl => ?_)
        refine lv_goto (tgt := 20) hx hb d_M_solve_53 rfl ?_
        exact ih (x + 1) ls H locs (by omega) (by rw [← he, slv_s, if_neg (it0 hc42)]) hP hD hS (lv_sub hl [0, 1] rfl)
      · refine lv_aload_n hx hb d_M_solve_45 rfl (lv_at hl 1 rfl) ?_
        refine lv_iload_n hx hb d_M_solve_46 rfl (lv_at hl 0 rfl) ?_
        refine va_put (D := D) (ci := 4) (v := .int (nI x)) (ty := .int) (C := R_M) (T := T_M) (N := 12) hx hb hts u_M t_M t_M_ok n_M hown hK hP hD hS 0 rfl rfl 5 (by decide) (hts _ f_M_7) (fun _ h9 => h9) rfl (by decide +kernel) rfl rfl (Nat.le_of_ble_eq_true rfl) d_M_solve_47 (fun H locs hP hD hS => ?_)
        have hP : va_P D cls_ [(m0, .inr (4, [.int 0, .int (nI vn), .int (nI kn), .int (nI tn), .int (nI an), .int (nI x), .int tt, .int tf, .int mt, .int mf, .ref ma, .int (nI vn)])), (ma, .inl (cZ, 1024, .inl (io)))] H := hP
        have hD : va_D A [(m0, .inr (4, [.int 0, .int (nI vn), .int (nI kn), .int (nI tn), .int (nI an), .int (nI x), .int tt, .int tf, .int mt, .int mf, .ref ma, .int (nI vn)])), (ma, .inl (cZ, 1024, .inl (io)))] := hD
        refine lv_iinc (k := 0) (v := (nI (x + 1))) (lv' := [(1, .int (nI (x + 1))), (0, .ref m0)]) hx hb d_M_solve_50 hl rfl (nI_1 x) (by decide) rfl (fun ls hl => ?_)
        refine lv_goto (tgt := 20) hx hb d_M_solve_53 rfl ?_
        have he9 : nI x = res := by rw [← he, slv_s, if_pos (it1 hc42)]
        subst he9
        refine lv_iload_n hx hb d_M_solve_20 rfl (lv_at hl 0 rfl) ?_
        refine lv_iconst (v := 1) hx hb d_M_solve_21 (by decide) ?_
        refine lv_aload_n hx hb d_M_solve_22 rfl (lv_at hl 1 rfl) ?_
        refine va_get (D := D) (ci := 4) (v := .int (nI vn)) (C := R_M) (T := T_M) (N := 12) hx hb hts u_M hown hK hP 0 rfl rfl 1 (by decide) (hts _ f_M_20) (fun _ h9 => h9) rfl d_M_solve_23 ?_
        refine lv_ishl hx hb d_M_solve_26 ?_
        rw [sh1 hvn]
        refine lv_icmp_ge (tgt := 56) hx hb d_M_solve_27 rfl (fun hc27 => ?_) (fun hc27 => ?_)
        · exact ex ls H locs hP hD hS (lv_sub hl [1] rfl)
        · refine lv_aload_n hx hb d_M_solve_30 rfl (lv_at hl 1 rfl) ?_
          refine va_get (D := D) (ci := 4) (v := .int (nI x)) (C := R_M) (T := T_M) (N := 12) hx hb hts u_M hown hK hP 0 rfl rfl 5 (by decide) (hts _ f_M_7) (fun _ h9 => h9) rfl d_M_solve_31 ?_
          refine lv_if_ge (tgt := 56) hx hb d_M_solve_34 rfl (fun hc34 => ?_) (fun hc34 => absurd (nI_pos' (by omega)) hc34)
          exact ex ls H locs hP hD hS (lv_sub hl [1] rfl)
  refine lv_aload_n hx hb d_M_solve_0 rfl (lv_at hl 0 rfl) ?_
  refine lv_iconst (v := 0) hx hb d_M_solve_1 (by decide) ?_
  refine va_put (D := D) (ci := 4) (v := .int 0) (ty := .int) (C := R_M) (T := T_M) (N := 12) hx hb hts u_M t_M t_M_ok n_M hown hK hP hD hS 0 rfl rfl 0 (by decide) (hts _ f_M_17) (fun _ h9 => h9) rfl (by decide +kernel) rfl rfl (Nat.le_of_ble_eq_true rfl) d_M_solve_2 (fun H locs hP hD hS => ?_)
  have hP : va_P D cls_ [(m0, .inr (4, [.int 0, .int (nI vn), .int (nI kn), .int (nI tn), .int (nI an), .int mo, .int tt, .int tf, .int mt, .int mf, .ref ma, .int (nI mn)])), (ma, .inl (cZ, 1024, .inl (io)))] H := hP
  have hD : va_D A [(m0, .inr (4, [.int 0, .int (nI vn), .int (nI kn), .int (nI tn), .int (nI an), .int mo, .int tt, .int tf, .int mt, .int mf, .ref ma, .int (nI mn)])), (ma, .inl (cZ, 1024, .inl (io)))] := hD
  refine lv_aload_n hx hb d_M_solve_5 rfl (lv_at hl 0 rfl) ?_
  refine lv_iconst (v := (-1)) hx hb d_M_solve_6 (by decide) ?_
  refine va_put (D := D) (ci := 4) (v := .int (-1)) (ty := .int) (C := R_M) (T := T_M) (N := 12) hx hb hts u_M t_M t_M_ok n_M hown hK hP hD hS 0 rfl rfl 5 (by decide) (hts _ f_M_7) (fun _ h9 => h9) rfl (by decide +kernel) rfl rfl (Nat.le_of_ble_eq_true rfl) d_M_solve_7 (fun H locs hP hD hS => ?_)
  have hP : va_P D cls_ [(m0, .inr (4, [.int 0, .int (nI vn), .int (nI kn), .int (nI tn), .int (nI an), .int (-1), .int tt, .int tf, .int mt, .int mf, .ref ma, .int (nI mn)])), (ma, .inl (cZ, 1024, .inl (io)))] H := hP
  have hD : va_D A [(m0, .inr (4, [.int 0, .int (nI vn), .int (nI kn), .int (nI tn), .int (nI an), .int (-1), .int tt, .int tf, .int mt, .int mf, .ref ma, .int (nI mn)])), (ma, .inl (cZ, 1024, .inl (io)))] := hD
  refine lv_aload_n hx hb d_M_solve_10 rfl (lv_at hl 0 rfl) ?_
  refine lv_aload_n hx hb d_M_solve_11 rfl (lv_at hl 0 rfl) ?_
  refine va_get (D := D) (ci := 4) (v := .int (nI vn)) (C := R_M) (T := T_M) (N := 12) hx hb hts u_M hown hK hP 0 rfl rfl 1 (by decide) (hts _ f_M_20) (fun _ h9 => h9) rfl d_M_solve_12 ?_
  refine va_put (D := D) (ci := 4) (v := .int (nI vn)) (ty := .int) (C := R_M) (T := T_M) (N := 12) hx hb hts u_M t_M t_M_ok n_M hown hK hP hD hS 0 rfl rfl 11 (by decide) (hts _ f_M_55) (fun _ h9 => h9) rfl (by decide +kernel) rfl rfl (Nat.le_of_ble_eq_true rfl) d_M_solve_15 (fun H locs hP hD hS => ?_)
  have hP : va_P D cls_ [(m0, .inr (4, [.int 0, .int (nI vn), .int (nI kn), .int (nI tn), .int (nI an), .int (-1), .int tt, .int tf, .int mt, .int mf, .ref ma, .int (nI vn)])), (ma, .inl (cZ, 1024, .inl (io)))] H := hP
  have hD : va_D A [(m0, .inr (4, [.int 0, .int (nI vn), .int (nI kn), .int (nI tn), .int (nI an), .int (-1), .int tt, .int tf, .int mt, .int mf, .ref ma, .int (nI vn)])), (ma, .inl (cZ, 1024, .inl (io)))] := hD
  refine lv_iconst (v := 0) hx hb d_M_solve_18 (by decide) ?_
  refine lv_istore_n (lv' := [(1, .int 0), (0, .ref m0)]) hx hb d_M_solve_19 rfl hl (by decide) rfl (fun ls hl => ?_)
  exact loop (2 ^ vn) 0 ls H locs (by omega) hT hP hD hS (lv_sub hl [0, 1] rfl)
set_option maxHeartbeats 4000000 in
set_option maxRecDepth 100000 in
theorem k_M_follows_b (l : Launch) (D : va_G) (cZ : ClassId) (m0 ma : Nat) (th : Int32) (vn kn tn an : Nat) (mo tt tf mt mf : Int32) (io : Nat → Int32) (mn : Nat) (x : Int32) (hx9 : ¬ LOK vn x) : KTi l y_M_follows c_M_follows 4 .boolean { frames := 2, cells := 0, slots := 0, locals := 45 } D [(cZ, .boolean)] [.ref m0, .int x] (wM cZ m0 ma th vn kn tn an mo tt tf mt mf io mn) (0) (wM cZ m0 ma 1 vn kn tn an mo tt tf mt mf io mn) := by
  refine KTi_of (own := R_M) (by decide +kernel) rfl (Nat.le_of_ble_eq_true rfl) (by decide +kernel) ?_
  intro p e st m below meth c A ls Q hx hb hml hts hown hK hP hD hS hA hl fin
  refine lv_aload_n hx hb d_M_follows_0 rfl (lv_at hl 0 rfl) ?_
  refine lv_iload_n hx hb d_M_follows_1 rfl (lv_at hl 1 rfl) ?_
  refine CTi_V (isC := [0, 1]) (isR := []) (wr := []) (wi := [(m0, .inr (4, [.int th, .int (nI vn), .int (nI kn), .int (nI tn), .int (nI an), .int mo, .int tt, .int tf, .int mt, .int mf, .ref ma, .int (nI mn)])), (ma, .inl (cZ, 1024, .inl (io)))]) (wo := [(m0, .inr (4, [.int th, .int (nI vn), .int (nI kn), .int (nI tn), .int (nI an), .int mo, .int tt, .int tf, .int mt, .int mf, .ref ma, .int (nI mn)])), (ma, .inl (cZ, 1024, .inl (io)))]) (b := m0) (As := [.int x]) (rest := []) ⟨hx, hb, hml, hown, hts⟩ [0] (k_M_isLiteral l D cZ m0 ma th vn kn tn an mo tt tf mt mf io mn x) (cwV 1 hts v_M_27 rfl rfl rfl (by decide +kernel) ⟨Nat.le_of_ble_eq_true rfl, Nat.le_of_ble_eq_true rfl⟩) ⟨rfl, rfl, rfl, rfl, by decide⟩ rfl hK hP hD hS hA (va_recv (ci := 4) hK hP rfl (q0 := 0) rfl) rfl hl.1 (Nat.le_of_ble_eq_true rfl) d_M_follows_2 ⟨Nat.le_of_ble_eq_true rfl, Nat.le_of_ble_eq_true rfl⟩ (fun H locs hP hD hS => ?_)
  have hP : va_P D cls_ [(m0, .inr (4, [.int th, .int (nI vn), .int (nI kn), .int (nI tn), .int (nI an), .int mo, .int tt, .int tf, .int mt, .int mf, .ref ma, .int (nI mn)])), (ma, .inl (cZ, 1024, .inl (io)))] H := hP
  have hD : va_D A [(m0, .inr (4, [.int th, .int (nI vn), .int (nI kn), .int (nI tn), .int (nI an), .int mo, .int tt, .int tf, .int mt, .int mf, .ref ma, .int (nI mn)])), (ma, .inl (cZ, 1024, .inl (io)))] := hD
  refine lv_if_ne (tgt := 15) hx hb d_M_follows_5 rfl (fun hc5 => absurd (it1 hc5) hx9) (fun hc5 => ?_)
  refine lv_aload_n hx hb d_M_follows_8 rfl (lv_at hl 0 rfl) ?_
  refine lv_iconst (v := 1) hx hb d_M_follows_9 (by decide) ?_
  refine va_put (D := D) (ci := 4) (v := .int 1) (ty := .int) (C := R_M) (T := T_M) (N := 12) hx hb hts u_M t_M t_M_ok n_M hown hK hP hD hS 0 rfl rfl 0 (by decide) (hts _ f_M_17) (fun _ h9 => h9) rfl (by decide +kernel) rfl rfl (Nat.le_of_ble_eq_true rfl) d_M_follows_10 (fun H locs hP hD hS => ?_)
  have hP : va_P D cls_ [(m0, .inr (4, [.int 1, .int (nI vn), .int (nI kn), .int (nI tn), .int (nI an), .int mo, .int tt, .int tf, .int mt, .int mf, .ref ma, .int (nI mn)])), (ma, .inl (cZ, 1024, .inl (io)))] H := hP
  have hD : va_D A [(m0, .inr (4, [.int 1, .int (nI vn), .int (nI kn), .int (nI tn), .int (nI an), .int mo, .int tt, .int tf, .int mt, .int mf, .ref ma, .int (nI mn)])), (ma, .inl (cZ, 1024, .inl (io)))] := hD
  refine lv_iconst (v := 0) hx hb d_M_follows_13 (by decide) ?_
  exact fin _ _ _ _ _ hP hD hS (rfl) d_M_follows_14
set_option maxHeartbeats 4000000 in
set_option maxRecDepth 100000 in
theorem k_M_follows (l : Launch) (D : va_G) (cZ : ClassId) (m0 ma : Nat) (th : Int32) (vn kn tn an : Nat) (mo tt tf mt mf : Int32) (io : Nat → Int32) (mn : Nat) (hvn : vn ≤ 10) (x : Int32) (hx9 : LOK vn x) : KTi l y_M_follows c_M_follows 4 .boolean { frames := 2, cells := 0, slots := 0, locals := 45 } D [(cZ, .boolean)] [.ref m0, .int x] (wM cZ m0 ma th vn kn tn an mo tt tf mt mf io mn) (fol (fun z => rmB io mt mf (rv z vn)) (fun z => itv x (nI (rv z vn))) (2 ^ vn) 0 1) (wM cZ m0 ma 0 vn kn tn 0 ((-1)) tt tf 0 0 io mn) := by
  refine KTi_of (own := R_M) (by decide +kernel) rfl (Nat.le_of_ble_eq_true rfl) (fol_nar (Or.inr rfl)) ?_
  intro p e st m below meth c A ls Q hx hb hml hts hown hK hP hD hS hA hl fin
  have hpw : 2 ^ vn ≤ 1024 := pw_le hvn
  generalize hT : fol (fun z => rmB io mt mf (rv z vn)) (fun z => itv x (nI (rv z vn))) (2 ^ vn) 0 1 = res at fin
  have loop : ∀ (k z : Nat) (y : Int32) (ls : Array Slot) (H : Heap) (locs : List Loc), z + k = 2 ^ vn → fol (fun z => rmB io mt mf (rv z vn)) (fun z => itv x (nI (rv z vn))) k z y = res → va_P D cls_ [(m0, .inr (4, [.int 0, .int (nI vn), .int (nI kn), .int (nI tn), .int (nI an), .int mo, .int tt, .int tf, .int mt, .int mf, .ref ma, .int (nI mn)])), (ma, .inl (cZ, 1024, .inl (io)))] H → va_D A [(m0, .inr (4, [.int 0, .int (nI vn), .int (nI kn), .int (nI tn), .int (nI an), .int mo, .int tt, .int tf, .int mt, .int mf, .ref ma, .int (nI mn)])), (ma, .inl (cZ, 1024, .inl (io)))] → va_S A st.heap H locs → lv_has ls 4 [(3, .int (nI z)), (2, .int y), (0, .ref m0), (1, .int x)] → W p l e { frames := 2, cells := 0, slots := 0, locals := 45 } st m [Value.ref m0, Value.int x].toArray below meth c H locs 0 0 Q (F0 m 24 ls []) := by
    intro k
    induction k with
    | zero =>
      intro z y ls H locs hz he hP hD hS hl
      have he : y = res := he
      subst he
      refine lv_iload_n hx hb d_M_follows_24 rfl (lv_at hl 0 rfl) ?_
      refine lv_iconst (v := 1) hx hb d_M_follows_25 (by decide) ?_
      refine lv_aload_n hx hb d_M_follows_26 rfl (lv_at hl 2 rfl) ?_
      refine va_get (D := D) (ci := 4) (v := .int (nI vn)) (C := R_M) (T := T_M) (N := 12) hx hb hts u_M hown hK hP 0 rfl rfl 1 (by decide) (hts _ f_M_20) (fun _ h9 => h9) rfl d_M_follows_27 ?_
      refine lv_ishl hx hb d_M_follows_30 ?_
      rw [sh1 hvn]
      refine lv_icmp_ge (tgt := 59) hx hb d_M_follows_31 rfl (fun hc31 => ?_) (fun hc31 => absurd (nI_le (by omega) (by omega)) hc31)
      refine lv_aload_n hx hb d_M_follows_59 rfl (lv_at hl 2 rfl) ?_
      refine CTv_V (isC := [0, 1]) (isR := []) (wr := []) (wi := [(m0, .inr (4, [.int 0, .int (nI vn), .int (nI kn), .int (nI tn), .int (nI an), .int mo, .int tt, .int tf, .int mt, .int mf, .ref ma, .int (nI mn)])), (ma, .inl (cZ, 1024, .inl (io)))]) (wo := [(m0, .inr (4, [.int 0, .int (nI vn), .int (nI kn), .int (nI tn), .int (nI 0), .int mo, .int tt, .int tf, .int 0, .int 0, .ref ma, .int (nI mn)])), (ma, .inl (cZ, 1024, .inl (io)))]) (b := m0) (As := []) (rest := []) ⟨hx, hb, hml, hown, hts⟩ [0] (k_M_forget l D cZ m0 ma 0 vn kn tn an mo tt tf mt mf io mn) (cwV 0 hts v_M_61 rfl rfl rfl (by decide +kernel) ⟨Nat.le_of_ble_eq_true rfl, Nat.le_of_ble_eq_true rfl⟩) ⟨rfl, rfl, rfl, rfl, by decide⟩ rfl hK hP hD hS hA (va_recv (ci := 4) hK hP rfl (q0 := 0) rfl) rfl hl.1 (Nat.le_of_ble_eq_true rfl) d_M_follows_60 ⟨Nat.le_of_ble_eq_true rfl, Nat.le_of_ble_eq_true rfl⟩ (fun H locs hP hD hS => ?_)
      have hP : va_P D cls_ [(m0, .inr (4, [.int 0, .int (nI vn), .int (nI kn), .int (nI tn), .int (nI 0), .int mo, .int tt, .int tf, .int 0, .int 0, .ref ma, .int (nI mn)])), (ma, .inl (cZ, 1024, .inl (io)))] H := hP
      have hD : va_D A [(m0, .inr (4, [.int 0, .int (nI vn), .int (nI kn), .int (nI tn), .int (nI 0), .int mo, .int tt, .int tf, .int 0, .int 0, .ref ma, .int (nI mn)])), (ma, .inl (cZ, 1024, .inl (io)))] := hD
      refine lv_aload_n hx hb d_M_follows_63 rfl (lv_at hl 2 rfl) ?_
      refine lv_iconst (v := (-1)) hx hb d_M_follows_64 (by decide) ?_
      refine va_put (D := D) (ci := 4) (v := .int (-1)) (ty := .int) (C := R_M) (T := T_M) (N := 12) hx hb hts u_M t_M t_M_ok n_M hown hK hP hD hS 0 rfl rfl 5 (by decide) (hts _ f_M_7) (fun _ h9 => h9) rfl (by decide +kernel) rfl rfl (Nat.le_of_ble_eq_true rfl) d_M_follows_65 (fun H locs hP hD hS => ?_)
      have hP : va_P D cls_ [(m0, .inr (4, [.int 0, .int (nI vn), .int (nI kn), .int (nI tn), .int (nI 0), .int (-1), .int tt, .int tf, .int 0, .int 0, .ref ma, .int (nI mn)])), (ma, .inl (cZ, 1024, .inl (io)))] H := hP
      have hD : va_D A [(m0, .inr (4, [.int 0, .int (nI vn), .int (nI kn), .int (nI tn), .int (nI 0), .int (-1), .int tt, .int tf, .int 0, .int 0, .ref ma, .int (nI mn)])), (ma, .inl (cZ, 1024, .inl (io)))] := hD
      refine lv_iload_n hx hb d_M_follows_68 rfl (lv_at hl 1 rfl) ?_
      exact fin _ _ _ _ _ hP hD hS (rfl) d_M_follows_69
    | succ k ih =>
      intro z y ls H locs hz he hP hD hS hl
      refine lv_iload_n hx hb d_M_follows_24 rfl (lv_at hl 0 rfl) ?_
      refine lv_iconst (v := 1) hx hb d_M_follows_25 (by decide) ?_
      refine lv_aload_n hx hb d_M_follows_26 rfl (lv_at hl 2 rfl) ?_
      refine va_get (D := D) (ci := 4) (v := .int (nI vn)) (C := R_M) (T := T_M) (N := 12) hx hb hts u_M hown hK hP 0 rfl rfl 1 (by decide) (hts _ f_M_20) (fun _ h9 => h9) rfl d_M_follows_27 ?_
      refine lv_ishl hx hb d_M_follows_30 ?_
      rw [sh1 hvn]
      refine lv_icmp_ge (tgt := 59) hx hb d_M_follows_31 rfl (fun hc31 => absurd hc31 (nI_ge (by omega) (by omega))) (fun hc31 => ?_)
      refine lv_aload_n hx hb d_M_follows_34 rfl (lv_at hl 2 rfl) ?_
      refine lv_iload_n hx hb d_M_follows_35 rfl (lv_at hl 0 rfl) ?_
      refine CTi_V (isC := [0, 1]) (isR := []) (wr := []) (wi := [(m0, .inr (4, [.int 0, .int (nI vn), .int (nI kn), .int (nI tn), .int (nI an), .int mo, .int tt, .int tf, .int mt, .int mf, .ref ma, .int (nI mn)])), (ma, .inl (cZ, 1024, .inl (io)))]) (wo := [(m0, .inr (4, [.int 0, .int (nI vn), .int (nI kn), .int (nI tn), .int (nI an), .int mo, .int tt, .int tf, .int mt, .int mf, .ref ma, .int (nI mn)])), (ma, .inl (cZ, 1024, .inl (io)))]) (b := m0) (As := [.int (nI z)]) (rest := []) ⟨hx, hb, hml, hown, hts⟩ [0] (k_M_isModel l D cZ m0 ma 0 vn kn tn an mo tt tf mt mf io mn hvn z (show z < 1024 by omega)) (cwV 1 hts v_M_58 rfl rfl rfl (by decide +kernel) ⟨Nat.le_of_ble_eq_true rfl, Nat.le_of_ble_eq_true rfl⟩) ⟨rfl, rfl, rfl, rfl, by decide⟩ rfl hK hP hD hS hA (va_recv (ci := 4) hK hP rfl (q0 := 0) rfl) rfl hl.1 (Nat.le_of_ble_eq_true rfl) d_M_follows_36 ⟨Nat.le_of_ble_eq_true rfl, Nat.le_of_ble_eq_true rfl⟩ (fun H locs hP hD hS => ?_)
      have hP : va_P D cls_ [(m0, .inr (4, [.int 0, .int (nI vn), .int (nI kn), .int (nI tn), .int (nI an), .int mo, .int tt, .int tf, .int mt, .int mf, .ref ma, .int (nI mn)])), (ma, .inl (cZ, 1024, .inl (io)))] H := hP
      have hD : va_D A [(m0, .inr (4, [.int 0, .int (nI vn), .int (nI kn), .int (nI tn), .int (nI an), .int mo, .int tt, .int tf, .int mt, .int mf, .ref ma, .int (nI mn)])), (ma, .inl (cZ, 1024, .inl (io)))] := hD
      refine lv_if_eq (tgt := 53) hx hb d_M_follows_39 rfl (fun hc39 => ?_) (fun hc39 => ?_)
      · refine lv_iinc (k := 0) (v := (nI (z + 1))) (lv' := [(3, .int (nI (z + 1))), (2, .int y), (0, .ref m0), (1, .int x)]) hx hb d_M_follows_53 hl rfl (nI_1 z) (by decide) rfl (fun ls hl => ?_)
        refine lv_goto (tgt := 24) hx hb d_M_follows_56 rfl ?_
        exact ih (z + 1) y ls H locs (by omega) (by rw [← he, fol_s, if_neg (fun h => it0 hc39 h.1)]) hP hD hS (lv_sub hl [0, 1, 2, 3] rfl)
      · refine lv_aload_n hx hb d_M_follows_42 rfl (lv_at hl 2 rfl) ?_
        refine lv_iload_n hx hb d_M_follows_43 rfl (lv_at hl 3 rfl) ?_
        refine lv_iload_n hx hb d_M_follows_44 rfl (lv_at hl 0 rfl) ?_
        refine CTi_V (isC := [0, 1]) (isR := []) (wr := []) (wi := [(m0, .inr (4, [.int 0, .int (nI vn), .int (nI kn), .int (nI tn), .int (nI an), .int mo, .int tt, .int tf, .int mt, .int mf, .ref ma, .int (nI mn)])), (ma, .inl (cZ, 1024, .inl (io)))]) (wo := [(m0, .inr (4, [.int 0, .int (nI vn), .int (nI kn), .int (nI tn), .int (nI an), .int mo, .int tt, .int tf, .int mt, .int mf, .ref ma, .int (nI mn)])), (ma, .inl (cZ, 1024, .inl (io)))]) (b := m0) (As := [.int x, .int (nI z)]) (rest := []) ⟨hx, hb, hml, hown, hts⟩ [0] (k_M_isTrue l D cZ m0 ma 0 vn kn tn an mo tt tf mt mf io mn hvn x z (show z < 1024 by omega)) (cwV 2 hts v_M_64 rfl rfl rfl (by decide +kernel) ⟨Nat.le_of_ble_eq_true rfl, Nat.le_of_ble_eq_true rfl⟩) ⟨rfl, rfl, rfl, rfl, by decide⟩ rfl hK hP hD hS hA (va_recv (ci := 4) hK hP rfl (q0 := 0) rfl) rfl hl.1 (Nat.le_of_ble_eq_true rfl) d_M_follows_45 ⟨Nat.le_of_ble_eq_true rfl, Nat.le_of_ble_eq_true rfl⟩ (fun H locs hP hD hS => ?_)
        have hP : va_P D cls_ [(m0, .inr (4, [.int 0, .int (nI vn), .int (nI kn), .int (nI tn), .int (nI an), .int mo, .int tt, .int tf, .int mt, .int mf, .ref ma, .int (nI mn)])), (ma, .inl (cZ, 1024, .inl (io)))] H := hP
        have hD : va_D A [(m0, .inr (4, [.int 0, .int (nI vn), .int (nI kn), .int (nI tn), .int (nI an), .int mo, .int tt, .int tf, .int mt, .int mf, .ref ma, .int (nI mn)])), (ma, .inl (cZ, 1024, .inl (io)))] := hD
        refine lv_if_ne (tgt := 53) hx hb d_M_follows_48 rfl (fun hc48 => ?_) (fun hc48 => ?_)
        · refine lv_iinc (k := 0) (v := (nI (z + 1))) (lv' := [(3, .int (nI (z + 1))), (2, .int y), (0, .ref m0), (1, .int x)]) hx hb d_M_follows_53 hl rfl (nI_1 z) (by decide) rfl (fun ls hl => ?_)
          refine lv_goto (tgt := 24) hx hb d_M_follows_56 rfl ?_
          exact ih (z + 1) y ls H locs (by omega) (by rw [← he, fol_s, if_neg (fun h => hc48 h.2)]) hP hD hS (lv_sub hl [0, 1, 2, 3] rfl)
        · refine lv_iconst (v := 0) hx hb d_M_follows_51 (by decide) ?_
          refine lv_istore_n (lv' := [(2, .int 0), (3, .int (nI z)), (0, .ref m0), (1, .int x)]) hx hb d_M_follows_52 rfl hl (by decide) rfl (fun ls hl => ?_)
          refine lv_iinc (k := 1) (v := (nI (z + 1))) (lv' := [(3, .int (nI (z + 1))), (2, .int 0), (0, .ref m0), (1, .int x)]) hx hb d_M_follows_53 hl rfl (nI_1 z) (by decide) rfl (fun ls hl => ?_)
          refine lv_goto (tgt := 24) hx hb d_M_follows_56 rfl ?_
          exact ih (z + 1) 0 ls H locs (by omega) (by rw [← he, fol_s, if_pos ⟨it1 hc39, hc48⟩]) hP hD hS (lv_sub hl [0, 1, 2, 3] rfl)
  refine lv_aload_n hx hb d_M_follows_0 rfl (lv_at hl 0 rfl) ?_
  refine lv_iload_n hx hb d_M_follows_1 rfl (lv_at hl 1 rfl) ?_
  refine CTi_V (isC := [0, 1]) (isR := []) (wr := []) (wi := [(m0, .inr (4, [.int th, .int (nI vn), .int (nI kn), .int (nI tn), .int (nI an), .int mo, .int tt, .int tf, .int mt, .int mf, .ref ma, .int (nI mn)])), (ma, .inl (cZ, 1024, .inl (io)))]) (wo := [(m0, .inr (4, [.int th, .int (nI vn), .int (nI kn), .int (nI tn), .int (nI an), .int mo, .int tt, .int tf, .int mt, .int mf, .ref ma, .int (nI mn)])), (ma, .inl (cZ, 1024, .inl (io)))]) (b := m0) (As := [.int x]) (rest := []) ⟨hx, hb, hml, hown, hts⟩ [0] (k_M_isLiteral l D cZ m0 ma th vn kn tn an mo tt tf mt mf io mn x) (cwV 1 hts v_M_27 rfl rfl rfl (by decide +kernel) ⟨Nat.le_of_ble_eq_true rfl, Nat.le_of_ble_eq_true rfl⟩) ⟨rfl, rfl, rfl, rfl, by decide⟩ rfl hK hP hD hS hA (va_recv (ci := 4) hK hP rfl (q0 := 0) rfl) rfl hl.1 (Nat.le_of_ble_eq_true rfl) d_M_follows_2 ⟨Nat.le_of_ble_eq_true rfl, Nat.le_of_ble_eq_true rfl⟩ (fun H locs hP hD hS => ?_)
  have hP : va_P D cls_ [(m0, .inr (4, [.int th, .int (nI vn), .int (nI kn), .int (nI tn), .int (nI an), .int mo, .int tt, .int tf, .int mt, .int mf, .ref ma, .int (nI mn)])), (ma, .inl (cZ, 1024, .inl (io)))] H := hP
  have hD : va_D A [(m0, .inr (4, [.int th, .int (nI vn), .int (nI kn), .int (nI tn), .int (nI an), .int mo, .int tt, .int tf, .int mt, .int mf, .ref ma, .int (nI mn)])), (ma, .inl (cZ, 1024, .inl (io)))] := hD
  refine lv_if_ne (tgt := 15) hx hb d_M_follows_5 rfl (fun hc5 => ?_) (fun hc5 => absurd hx9 (it0 hc5))
  refine lv_aload_n hx hb d_M_follows_15 rfl (lv_at hl 0 rfl) ?_
  refine lv_iconst (v := 0) hx hb d_M_follows_16 (by decide) ?_
  refine va_put (D := D) (ci := 4) (v := .int 0) (ty := .int) (C := R_M) (T := T_M) (N := 12) hx hb hts u_M t_M t_M_ok n_M hown hK hP hD hS 0 rfl rfl 0 (by decide) (hts _ f_M_17) (fun _ h9 => h9) rfl (by decide +kernel) rfl rfl (Nat.le_of_ble_eq_true rfl) d_M_follows_17 (fun H locs hP hD hS => ?_)
  have hP : va_P D cls_ [(m0, .inr (4, [.int 0, .int (nI vn), .int (nI kn), .int (nI tn), .int (nI an), .int mo, .int tt, .int tf, .int mt, .int mf, .ref ma, .int (nI mn)])), (ma, .inl (cZ, 1024, .inl (io)))] H := hP
  have hD : va_D A [(m0, .inr (4, [.int 0, .int (nI vn), .int (nI kn), .int (nI tn), .int (nI an), .int mo, .int tt, .int tf, .int mt, .int mf, .ref ma, .int (nI mn)])), (ma, .inl (cZ, 1024, .inl (io)))] := hD
  refine lv_iconst (v := 1) hx hb d_M_follows_20 (by decide) ?_
  refine lv_istore_n (lv' := [(2, .int 1), (0, .ref m0), (1, .int x)]) hx hb d_M_follows_21 rfl hl (by decide) rfl (fun ls hl => ?_)
  refine lv_iconst (v := 0) hx hb d_M_follows_22 (by decide) ?_
  refine lv_istore_n (lv' := [(3, .int 0), (2, .int 1), (0, .ref m0), (1, .int x)]) hx hb d_M_follows_23 rfl hl (by decide) rfl (fun ls hl => ?_)
  exact loop (2 ^ vn) 0 1 ls H locs (by omega) hT hP hD hS (lv_sub hl [0, 1, 2, 3] rfl)
set_option maxHeartbeats 4000000 in
set_option maxRecDepth 100000 in
theorem k_M_models (l : Launch) (D : va_G) (cZ : ClassId) (m0 ma : Nat) (th : Int32) (vn kn tn an : Nat) (mo tt tf mt mf : Int32) (io : Nat → Int32) (mn : Nat) (hvn : vn ≤ 10) : KTi l y_M_models c_M_models 3 .int { frames := 2, cells := 0, slots := 0, locals := 45 } D [(cZ, .boolean)] [.ref m0] (wM cZ m0 ma th vn kn tn an mo tt tf mt mf io mn) (nI (mol (fun z => rmB io mt mf (rv z vn)) (2 ^ vn) 0 0)) (wM cZ m0 ma 0 vn kn tn 0 ((-1)) tt tf 0 0 io mn) := by
  refine KTi_of (own := R_M) (by decide +kernel) rfl (Nat.le_of_ble_eq_true rfl) (vp_nar_int _) ?_
  intro p e st m below meth c A ls Q hx hb hml hts hown hK hP hD hS hA hl fin
  have hpw : 2 ^ vn ≤ 1024 := pw_le hvn
  generalize hT : mol (fun z => rmB io mt mf (rv z vn)) (2 ^ vn) 0 0 = res at fin
  have ex : ∀ (ls : Array Slot) (H : Heap) (locs : List Loc), va_P D cls_ [(m0, .inr (4, [.int 0, .int (nI vn), .int (nI kn), .int (nI tn), .int (nI an), .int mo, .int tt, .int tf, .int mt, .int mf, .ref ma, .int (nI mn)])), (ma, .inl (cZ, 1024, .inl (io)))] H → va_D A [(m0, .inr (4, [.int 0, .int (nI vn), .int (nI kn), .int (nI tn), .int (nI an), .int mo, .int tt, .int tf, .int mt, .int mf, .ref ma, .int (nI mn)])), (ma, .inl (cZ, 1024, .inl (io)))] → va_S A st.heap H locs → lv_has ls 3 [(1, .int (nI res)), (0, .ref m0)] → W p l e { frames := 2, cells := 0, slots := 0, locals := 45 } st m [Value.ref m0].toArray below meth c H locs 0 0 Q (F0 m 42 ls []) := by
    intro ls H locs hP hD hS hl
    refine lv_aload_n hx hb d_M_models_42 rfl (lv_at hl 1 rfl) ?_
    refine CTv_V (isC := [0, 1]) (isR := []) (wr := []) (wi := [(m0, .inr (4, [.int 0, .int (nI vn), .int (nI kn), .int (nI tn), .int (nI an), .int mo, .int tt, .int tf, .int mt, .int mf, .ref ma, .int (nI mn)])), (ma, .inl (cZ, 1024, .inl (io)))]) (wo := [(m0, .inr (4, [.int 0, .int (nI vn), .int (nI kn), .int (nI tn), .int (nI 0), .int mo, .int tt, .int tf, .int 0, .int 0, .ref ma, .int (nI mn)])), (ma, .inl (cZ, 1024, .inl (io)))]) (b := m0) (As := []) (rest := []) ⟨hx, hb, hml, hown, hts⟩ [0] (k_M_forget l D cZ m0 ma 0 vn kn tn an mo tt tf mt mf io mn) (cwV 0 hts v_M_61 rfl rfl rfl (by decide +kernel) ⟨Nat.le_of_ble_eq_true rfl, Nat.le_of_ble_eq_true rfl⟩) ⟨rfl, rfl, rfl, rfl, by decide⟩ rfl hK hP hD hS hA (va_recv (ci := 4) hK hP rfl (q0 := 0) rfl) rfl hl.1 (Nat.le_of_ble_eq_true rfl) d_M_models_43 ⟨Nat.le_of_ble_eq_true rfl, Nat.le_of_ble_eq_true rfl⟩ (fun H locs hP hD hS => ?_)
    have hP : va_P D cls_ [(m0, .inr (4, [.int 0, .int (nI vn), .int (nI kn), .int (nI tn), .int (nI 0), .int mo, .int tt, .int tf, .int 0, .int 0, .ref ma, .int (nI mn)])), (ma, .inl (cZ, 1024, .inl (io)))] H := hP
    have hD : va_D A [(m0, .inr (4, [.int 0, .int (nI vn), .int (nI kn), .int (nI tn), .int (nI 0), .int mo, .int tt, .int tf, .int 0, .int 0, .ref ma, .int (nI mn)])), (ma, .inl (cZ, 1024, .inl (io)))] := hD
    refine lv_aload_n hx hb d_M_models_46 rfl (lv_at hl 1 rfl) ?_
    refine lv_iconst (v := (-1)) hx hb d_M_models_47 (by decide) ?_
    refine va_put (D := D) (ci := 4) (v := .int (-1)) (ty := .int) (C := R_M) (T := T_M) (N := 12) hx hb hts u_M t_M t_M_ok n_M hown hK hP hD hS 0 rfl rfl 5 (by decide) (hts _ f_M_7) (fun _ h9 => h9) rfl (by decide +kernel) rfl rfl (Nat.le_of_ble_eq_true rfl) d_M_models_48 (fun H locs hP hD hS => ?_)
    have hP : va_P D cls_ [(m0, .inr (4, [.int 0, .int (nI vn), .int (nI kn), .int (nI tn), .int (nI 0), .int (-1), .int tt, .int tf, .int 0, .int 0, .ref ma, .int (nI mn)])), (ma, .inl (cZ, 1024, .inl (io)))] H := hP
    have hD : va_D A [(m0, .inr (4, [.int 0, .int (nI vn), .int (nI kn), .int (nI tn), .int (nI 0), .int (-1), .int tt, .int tf, .int 0, .int 0, .ref ma, .int (nI mn)])), (ma, .inl (cZ, 1024, .inl (io)))] := hD
    refine lv_iload_n hx hb d_M_models_51 rfl (lv_at hl 0 rfl) ?_
    exact fin _ _ _ _ _ hP hD hS (rfl) d_M_models_52
  have loop : ∀ (k z c0 : Nat) (ls : Array Slot) (H : Heap) (locs : List Loc), z + k = 2 ^ vn → c0 ≤ 40 → mol (fun z => rmB io mt mf (rv z vn)) k z c0 = res → va_P D cls_ [(m0, .inr (4, [.int 0, .int (nI vn), .int (nI kn), .int (nI tn), .int (nI an), .int mo, .int tt, .int tf, .int mt, .int mf, .ref ma, .int (nI mn)])), (ma, .inl (cZ, 1024, .inl (io)))] H → va_D A [(m0, .inr (4, [.int 0, .int (nI vn), .int (nI kn), .int (nI tn), .int (nI an), .int mo, .int tt, .int tf, .int mt, .int mf, .ref ma, .int (nI mn)])), (ma, .inl (cZ, 1024, .inl (io)))] → va_S A st.heap H locs → lv_has ls 3 [(2, .int (nI z)), (1, .int (nI c0)), (0, .ref m0)] → W p l e { frames := 2, cells := 0, slots := 0, locals := 45 } st m [Value.ref m0].toArray below meth c H locs 0 0 Q (F0 m 9 ls []) := by
    intro k
    induction k with
    | zero =>
      intro z c0 ls H locs hz hc0 he hP hD hS hl
      have he : c0 = res := he
      subst he
      refine lv_iload_n hx hb d_M_models_9 rfl (lv_at hl 0 rfl) ?_
      refine lv_iconst (v := 1) hx hb d_M_models_10 (by decide) ?_
      refine lv_aload_n hx hb d_M_models_11 rfl (lv_at hl 2 rfl) ?_
      refine va_get (D := D) (ci := 4) (v := .int (nI vn)) (C := R_M) (T := T_M) (N := 12) hx hb hts u_M hown hK hP 0 rfl rfl 1 (by decide) (hts _ f_M_20) (fun _ h9 => h9) rfl d_M_models_12 ?_
      refine lv_ishl hx hb d_M_models_15 ?_
      rw [sh1 hvn]
      refine lv_icmp_ge (tgt := 42) hx hb d_M_models_16 rfl (fun hc16 => ?_) (fun hc16 => absurd (nI_le (by omega) (by omega)) hc16)
      exact ex ls H locs hP hD hS (lv_sub hl [1, 2] rfl)
    | succ k ih =>
      intro z c0 ls H locs hz hc0 he hP hD hS hl
      refine lv_iload_n hx hb d_M_models_9 rfl (lv_at hl 0 rfl) ?_
      refine lv_iconst (v := 1) hx hb d_M_models_10 (by decide) ?_
      refine lv_aload_n hx hb d_M_models_11 rfl (lv_at hl 2 rfl) ?_
      refine va_get (D := D) (ci := 4) (v := .int (nI vn)) (C := R_M) (T := T_M) (N := 12) hx hb hts u_M hown hK hP 0 rfl rfl 1 (by decide) (hts _ f_M_20) (fun _ h9 => h9) rfl d_M_models_12 ?_
      refine lv_ishl hx hb d_M_models_15 ?_
      rw [sh1 hvn]
      refine lv_icmp_ge (tgt := 42) hx hb d_M_models_16 rfl (fun hc16 => absurd hc16 (nI_ge (by omega) (by omega))) (fun hc16 => ?_)
      refine lv_iload_n hx hb d_M_models_19 rfl (lv_at hl 1 rfl) ?_
      refine lv_bipush (v := 40) hx hb d_M_models_20 (by decide +kernel) ?_
      refine lv_icmp_ge (tgt := 42) hx hb d_M_models_22 rfl (fun hc22 => ?_) (fun hc22 => ?_)
      · have h40 : 40 ≤ c0 := (nI_leI (a := 40) (by decide) (by omega)).1 hc22
        have he9 : c0 = res := by rw [← he, mol_s, if_pos h40]
        subst he9
        exact ex ls H locs hP hD hS (lv_sub hl [1, 2] rfl)
      · have h40 : ¬ 40 ≤ c0 := fun h => hc22 (nI_le (a := 40) h (by omega))
        refine lv_aload_n hx hb d_M_models_25 rfl (lv_at hl 2 rfl) ?_
        refine lv_iload_n hx hb d_M_models_26 rfl (lv_at hl 0 rfl) ?_
        refine CTi_V (isC := [0, 1]) (isR := []) (wr := []) (wi := [(m0, .inr (4, [.int 0, .int (nI vn), .int (nI kn), .int (nI tn), .int (nI an), .int mo, .int tt, .int tf, .int mt, .int mf, .ref ma, .int (nI mn)])), (ma, .inl (cZ, 1024, .inl (io)))]) (wo := [(m0, .inr (4, [.int 0, .int (nI vn), .int (nI kn), .int (nI tn), .int (nI an), .int mo, .int tt, .int tf, .int mt, .int mf, .ref ma, .int (nI mn)])), (ma, .inl (cZ, 1024, .inl (io)))]) (b := m0) (As := [.int (nI z)]) (rest := []) ⟨hx, hb, hml, hown, hts⟩ [0] (k_M_isModel l D cZ m0 ma 0 vn kn tn an mo tt tf mt mf io mn hvn z (show z < 1024 by omega)) (cwV 1 hts v_M_58 rfl rfl rfl (by decide +kernel) ⟨Nat.le_of_ble_eq_true rfl, Nat.le_of_ble_eq_true rfl⟩) ⟨rfl, rfl, rfl, rfl, by decide⟩ rfl hK hP hD hS hA (va_recv (ci := 4) hK hP rfl (q0 := 0) rfl) rfl hl.1 (Nat.le_of_ble_eq_true rfl) d_M_models_27 ⟨Nat.le_of_ble_eq_true rfl, Nat.le_of_ble_eq_true rfl⟩ (fun H locs hP hD hS => ?_)
        have hP : va_P D cls_ [(m0, .inr (4, [.int 0, .int (nI vn), .int (nI kn), .int (nI tn), .int (nI an), .int mo, .int tt, .int tf, .int mt, .int mf, .ref ma, .int (nI mn)])), (ma, .inl (cZ, 1024, .inl (io)))] H := hP
        have hD : va_D A [(m0, .inr (4, [.int 0, .int (nI vn), .int (nI kn), .int (nI tn), .int (nI an), .int mo, .int tt, .int tf, .int mt, .int mf, .ref ma, .int (nI mn)])), (ma, .inl (cZ, 1024, .inl (io)))] := hD
        refine lv_if_eq (tgt := 36) hx hb d_M_models_30 rfl (fun hc30 => ?_) (fun hc30 => ?_)
        · refine lv_iinc (k := 0) (v := (nI (z + 1))) (lv' := [(2, .int (nI (z + 1))), (1, .int (nI c0)), (0, .ref m0)]) hx hb d_M_models_36 hl rfl (nI_1 z) (by decide) rfl (fun ls hl => ?_)
          refine lv_goto (tgt := 9) hx hb d_M_models_39 rfl ?_
          exact ih (z + 1) c0 ls H locs (by omega) (by omega) (by rw [← he, mol_s, if_neg h40, if_neg (it0 hc30)]) hP hD hS (lv_sub hl [0, 1, 2] rfl)
        · refine lv_iinc (k := 1) (v := (nI (c0 + 1))) (lv' := [(1, .int (nI (c0 + 1))), (2, .int (nI z)), (0, .ref m0)]) hx hb d_M_models_33 hl rfl (nI_1 c0) (by decide) rfl (fun ls hl => ?_)
          refine lv_iinc (k := 1) (v := (nI (z + 1))) (lv' := [(2, .int (nI (z + 1))), (1, .int (nI (c0 + 1))), (0, .ref m0)]) hx hb d_M_models_36 hl rfl (nI_1 z) (by decide) rfl (fun ls hl => ?_)
          refine lv_goto (tgt := 9) hx hb d_M_models_39 rfl ?_
          exact ih (z + 1) (c0 + 1) ls H locs (by omega) (by omega) (by rw [← he, mol_s, if_neg h40, if_pos (it1 hc30)]) hP hD hS (lv_sub hl [0, 1, 2] rfl)
  refine lv_aload_n hx hb d_M_models_0 rfl (lv_at hl 0 rfl) ?_
  refine lv_iconst (v := 0) hx hb d_M_models_1 (by decide) ?_
  refine va_put (D := D) (ci := 4) (v := .int 0) (ty := .int) (C := R_M) (T := T_M) (N := 12) hx hb hts u_M t_M t_M_ok n_M hown hK hP hD hS 0 rfl rfl 0 (by decide) (hts _ f_M_17) (fun _ h9 => h9) rfl (by decide +kernel) rfl rfl (Nat.le_of_ble_eq_true rfl) d_M_models_2 (fun H locs hP hD hS => ?_)
  have hP : va_P D cls_ [(m0, .inr (4, [.int 0, .int (nI vn), .int (nI kn), .int (nI tn), .int (nI an), .int mo, .int tt, .int tf, .int mt, .int mf, .ref ma, .int (nI mn)])), (ma, .inl (cZ, 1024, .inl (io)))] H := hP
  have hD : va_D A [(m0, .inr (4, [.int 0, .int (nI vn), .int (nI kn), .int (nI tn), .int (nI an), .int mo, .int tt, .int tf, .int mt, .int mf, .ref ma, .int (nI mn)])), (ma, .inl (cZ, 1024, .inl (io)))] := hD
  refine lv_iconst (v := 0) hx hb d_M_models_5 (by decide) ?_
  refine lv_istore_n (lv' := [(1, .int 0), (0, .ref m0)]) hx hb d_M_models_6 rfl hl (by decide) rfl (fun ls hl => ?_)
  refine lv_iconst (v := 0) hx hb d_M_models_7 (by decide) ?_
  refine lv_istore_n (lv' := [(2, .int 0), (1, .int 0), (0, .ref m0)]) hx hb d_M_models_8 rfl hl (by decide) rfl (fun ls hl => ?_)
  exact loop (2 ^ vn) 0 0 ls H locs (by omega) (by omega) hT hP hD hS (lv_sub hl [0, 1, 2] rfl)
set_option maxHeartbeats 4000000 in
set_option maxRecDepth 100000 in
theorem k_M_value_b (l : Launch) (D : va_G) (cZ : ClassId) (m0 ma : Nat) (th : Int32) (vn kn tn an : Nat) (mo tt tf mt mf : Int32) (io : Nat → Int32) (mn : Nat) (x : Int32) (hx9 : x < 1 ∨ nI vn < x) : KTi l y_M_value c_M_value 2 .boolean { frames := 0, cells := 0, slots := 0, locals := 0 } D [(cZ, .boolean)] [.ref m0, .int x] (wM cZ m0 ma th vn kn tn an mo tt tf mt mf io mn) (0) (wM cZ m0 ma 1 vn kn tn an mo tt tf mt mf io mn) := by
  refine KTi_of (own := R_M) (by decide +kernel) rfl (Nat.le_of_ble_eq_true rfl) (by decide +kernel) ?_
  intro p e st m below meth c A ls Q hx hb hml hts hown hK hP hD hS hA hl fin
  refine lv_aload_n hx hb d_M_value_0 rfl (lv_at hl 0 rfl) ?_
  refine lv_iload_n hx hb d_M_value_1 rfl (lv_at hl 1 rfl) ?_
  refine lv_iconst (v := 1) hx hb d_M_value_2 (by decide) ?_
  refine lv_icmp_lt (tgt := 14) hx hb d_M_value_3 rfl (fun hc3 => ?_) (fun hc3 => ?_)
  · refine lv_iconst (v := 1) hx hb d_M_value_14 (by decide) ?_
    refine lv_goto (tgt := 30) hx hb d_M_value_15 rfl ?_
    refine va_put (D := D) (ci := 4) (v := .int 1) (ty := .int) (C := R_M) (T := T_M) (N := 12) hx hb hts u_M t_M t_M_ok n_M hown hK hP hD hS 0 rfl rfl 0 (by decide) (hts _ f_M_17) (fun _ h9 => h9) rfl (by decide +kernel) rfl rfl (Nat.le_of_ble_eq_true rfl) d_M_value_30 (fun H locs hP hD hS => ?_)
    have hP : va_P D cls_ [(m0, .inr (4, [.int 1, .int (nI vn), .int (nI kn), .int (nI tn), .int (nI an), .int mo, .int tt, .int tf, .int mt, .int mf, .ref ma, .int (nI mn)])), (ma, .inl (cZ, 1024, .inl (io)))] H := hP
    have hD : va_D A [(m0, .inr (4, [.int 1, .int (nI vn), .int (nI kn), .int (nI tn), .int (nI an), .int mo, .int tt, .int tf, .int mt, .int mf, .ref ma, .int (nI mn)])), (ma, .inl (cZ, 1024, .inl (io)))] := hD
    refine lv_aload_n hx hb d_M_value_33 rfl (lv_at hl 0 rfl) ?_
    refine va_get (D := D) (ci := 4) (v := .int 1) (C := R_M) (T := T_M) (N := 12) hx hb hts u_M hown hK hP 0 rfl rfl 0 (by decide) (hts _ f_M_17) (fun _ h9 => h9) rfl d_M_value_34 ?_
    refine lv_if_ne (tgt := 68) hx hb d_M_value_37 rfl (fun hc37 => ?_) (fun hc37 => absurd hc37 (by decide))
    refine lv_iconst (v := 0) hx hb d_M_value_68 (by decide) ?_
    exact fin _ _ _ _ _ hP hD hS (rfl) d_M_value_69
  · refine lv_iload_n hx hb d_M_value_6 rfl (lv_at hl 1 rfl) ?_
    refine lv_aload_n hx hb d_M_value_7 rfl (lv_at hl 0 rfl) ?_
    refine va_get (D := D) (ci := 4) (v := .int (nI vn)) (C := R_M) (T := T_M) (N := 12) hx hb hts u_M hown hK hP 0 rfl rfl 1 (by decide) (hts _ f_M_20) (fun _ h9 => h9) rfl d_M_value_8 ?_
    refine lv_icmp_le (tgt := 18) hx hb d_M_value_11 rfl (fun hc11 => absurd hx9 (fun h => h.elim hc3 (Int32.not_lt.mpr hc11))) (fun hc11 => ?_)
    refine lv_iconst (v := 1) hx hb d_M_value_14 (by decide) ?_
    refine lv_goto (tgt := 30) hx hb d_M_value_15 rfl ?_
    refine va_put (D := D) (ci := 4) (v := .int 1) (ty := .int) (C := R_M) (T := T_M) (N := 12) hx hb hts u_M t_M t_M_ok n_M hown hK hP hD hS 0 rfl rfl 0 (by decide) (hts _ f_M_17) (fun _ h9 => h9) rfl (by decide +kernel) rfl rfl (Nat.le_of_ble_eq_true rfl) d_M_value_30 (fun H locs hP hD hS => ?_)
    have hP : va_P D cls_ [(m0, .inr (4, [.int 1, .int (nI vn), .int (nI kn), .int (nI tn), .int (nI an), .int mo, .int tt, .int tf, .int mt, .int mf, .ref ma, .int (nI mn)])), (ma, .inl (cZ, 1024, .inl (io)))] H := hP
    have hD : va_D A [(m0, .inr (4, [.int 1, .int (nI vn), .int (nI kn), .int (nI tn), .int (nI an), .int mo, .int tt, .int tf, .int mt, .int mf, .ref ma, .int (nI mn)])), (ma, .inl (cZ, 1024, .inl (io)))] := hD
    refine lv_aload_n hx hb d_M_value_33 rfl (lv_at hl 0 rfl) ?_
    refine va_get (D := D) (ci := 4) (v := .int 1) (C := R_M) (T := T_M) (N := 12) hx hb hts u_M hown hK hP 0 rfl rfl 0 (by decide) (hts _ f_M_17) (fun _ h9 => h9) rfl d_M_value_34 ?_
    refine lv_if_ne (tgt := 68) hx hb d_M_value_37 rfl (fun hc37 => ?_) (fun hc37 => absurd hc37 (by decide))
    refine lv_iconst (v := 0) hx hb d_M_value_68 (by decide) ?_
    exact fin _ _ _ _ _ hP hD hS (rfl) d_M_value_69
set_option maxHeartbeats 4000000 in
set_option maxRecDepth 100000 in
theorem k_M_value_m (l : Launch) (D : va_G) (cZ : ClassId) (m0 ma : Nat) (th : Int32) (vn kn tn an : Nat) (mo tt tf mt mf : Int32) (io : Nat → Int32) (mn : Nat) (x : Int32) (hx1 : ¬ x < 1) (hx2 : x ≤ nI vn) (hm9 : mo < 0) : KTi l y_M_value c_M_value 2 .boolean { frames := 0, cells := 0, slots := 0, locals := 0 } D [(cZ, .boolean)] [.ref m0, .int x] (wM cZ m0 ma th vn kn tn an mo tt tf mt mf io mn) (0) (wM cZ m0 ma 2 vn kn tn an mo tt tf mt mf io mn) := by
  refine KTi_of (own := R_M) (by decide +kernel) rfl (Nat.le_of_ble_eq_true rfl) (by decide +kernel) ?_
  intro p e st m below meth c A ls Q hx hb hml hts hown hK hP hD hS hA hl fin
  refine lv_aload_n hx hb d_M_value_0 rfl (lv_at hl 0 rfl) ?_
  refine lv_iload_n hx hb d_M_value_1 rfl (lv_at hl 1 rfl) ?_
  refine lv_iconst (v := 1) hx hb d_M_value_2 (by decide) ?_
  refine lv_icmp_lt (tgt := 14) hx hb d_M_value_3 rfl (fun hc3 => absurd hc3 hx1) (fun hc3 => ?_)
  refine lv_iload_n hx hb d_M_value_6 rfl (lv_at hl 1 rfl) ?_
  refine lv_aload_n hx hb d_M_value_7 rfl (lv_at hl 0 rfl) ?_
  refine va_get (D := D) (ci := 4) (v := .int (nI vn)) (C := R_M) (T := T_M) (N := 12) hx hb hts u_M hown hK hP 0 rfl rfl 1 (by decide) (hts _ f_M_20) (fun _ h9 => h9) rfl d_M_value_8 ?_
  refine lv_icmp_le (tgt := 18) hx hb d_M_value_11 rfl (fun hc11 => ?_) (fun hc11 => absurd hx2 hc11)
  refine lv_aload_n hx hb d_M_value_18 rfl (lv_at hl 0 rfl) ?_
  refine va_get (D := D) (ci := 4) (v := .int mo) (C := R_M) (T := T_M) (N := 12) hx hb hts u_M hown hK hP 0 rfl rfl 5 (by decide) (hts _ f_M_7) (fun _ h9 => h9) rfl d_M_value_19 ?_
  refine lv_if_ge (tgt := 29) hx hb d_M_value_22 rfl (fun hc22 => absurd hm9 (Int32.not_lt.mpr hc22)) (fun hc22 => ?_)
  refine lv_iconst (v := 2) hx hb d_M_value_25 (by decide) ?_
  refine lv_goto (tgt := 30) hx hb d_M_value_26 rfl ?_
  refine va_put (D := D) (ci := 4) (v := .int 2) (ty := .int) (C := R_M) (T := T_M) (N := 12) hx hb hts u_M t_M t_M_ok n_M hown hK hP hD hS 0 rfl rfl 0 (by decide) (hts _ f_M_17) (fun _ h9 => h9) rfl (by decide +kernel) rfl rfl (Nat.le_of_ble_eq_true rfl) d_M_value_30 (fun H locs hP hD hS => ?_)
  have hP : va_P D cls_ [(m0, .inr (4, [.int 2, .int (nI vn), .int (nI kn), .int (nI tn), .int (nI an), .int mo, .int tt, .int tf, .int mt, .int mf, .ref ma, .int (nI mn)])), (ma, .inl (cZ, 1024, .inl (io)))] H := hP
  have hD : va_D A [(m0, .inr (4, [.int 2, .int (nI vn), .int (nI kn), .int (nI tn), .int (nI an), .int mo, .int tt, .int tf, .int mt, .int mf, .ref ma, .int (nI mn)])), (ma, .inl (cZ, 1024, .inl (io)))] := hD
  refine lv_aload_n hx hb d_M_value_33 rfl (lv_at hl 0 rfl) ?_
  refine va_get (D := D) (ci := 4) (v := .int 2) (C := R_M) (T := T_M) (N := 12) hx hb hts u_M hown hK hP 0 rfl rfl 0 (by decide) (hts _ f_M_17) (fun _ h9 => h9) rfl d_M_value_34 ?_
  refine lv_if_ne (tgt := 68) hx hb d_M_value_37 rfl (fun hc37 => ?_) (fun hc37 => absurd hc37 (by decide))
  refine lv_iconst (v := 0) hx hb d_M_value_68 (by decide) ?_
  exact fin _ _ _ _ _ hP hD hS (rfl) d_M_value_69
set_option maxHeartbeats 4000000 in
set_option maxRecDepth 100000 in
theorem k_M_value (l : Launch) (D : va_G) (cZ : ClassId) (m0 ma : Nat) (th : Int32) (vn kn tn an : Nat) (mo tt tf mt mf : Int32) (io : Nat → Int32) (mn : Nat) (x : Int32) (hx1 : ¬ x < 1) (hx2 : x ≤ nI vn) (hm9 : ¬ mo < 0) : KTi l y_M_value c_M_value 2 .boolean { frames := 0, cells := 0, slots := 0, locals := 0 } D [(cZ, .boolean)] [.ref m0, .int x] (wM cZ m0 ma th vn kn tn an mo tt tf mt mf io mn) (if x ≤ nI mn ∧ ¬ (mo >>> ((nI mn - x) &&& 31)) &&& 1 = 0 then 1 else 0) (wM cZ m0 ma 0 vn kn tn an mo tt tf mt mf io mn) := by
  refine KTi_of (own := R_M) (by decide +kernel) rfl (Nat.le_of_ble_eq_true rfl) (nar_if _) ?_
  intro p e st m below meth c A ls Q hx hb hml hts hown hK hP hD hS hA hl fin
  refine lv_aload_n hx hb d_M_value_0 rfl (lv_at hl 0 rfl) ?_
  refine lv_iload_n hx hb d_M_value_1 rfl (lv_at hl 1 rfl) ?_
  refine lv_iconst (v := 1) hx hb d_M_value_2 (by decide) ?_
  refine lv_icmp_lt (tgt := 14) hx hb d_M_value_3 rfl (fun hc3 => absurd hc3 hx1) (fun hc3 => ?_)
  refine lv_iload_n hx hb d_M_value_6 rfl (lv_at hl 1 rfl) ?_
  refine lv_aload_n hx hb d_M_value_7 rfl (lv_at hl 0 rfl) ?_
  refine va_get (D := D) (ci := 4) (v := .int (nI vn)) (C := R_M) (T := T_M) (N := 12) hx hb hts u_M hown hK hP 0 rfl rfl 1 (by decide) (hts _ f_M_20) (fun _ h9 => h9) rfl d_M_value_8 ?_
  refine lv_icmp_le (tgt := 18) hx hb d_M_value_11 rfl (fun hc11 => ?_) (fun hc11 => absurd hx2 hc11)
  refine lv_aload_n hx hb d_M_value_18 rfl (lv_at hl 0 rfl) ?_
  refine va_get (D := D) (ci := 4) (v := .int mo) (C := R_M) (T := T_M) (N := 12) hx hb hts u_M hown hK hP 0 rfl rfl 5 (by decide) (hts _ f_M_7) (fun _ h9 => h9) rfl d_M_value_19 ?_
  refine lv_if_ge (tgt := 29) hx hb d_M_value_22 rfl (fun hc22 => ?_) (fun hc22 => absurd (Int32.not_le.mp hc22) hm9)
  refine lv_iconst (v := 0) hx hb d_M_value_29 (by decide) ?_
  refine va_put (D := D) (ci := 4) (v := .int 0) (ty := .int) (C := R_M) (T := T_M) (N := 12) hx hb hts u_M t_M t_M_ok n_M hown hK hP hD hS 0 rfl rfl 0 (by decide) (hts _ f_M_17) (fun _ h9 => h9) rfl (by decide +kernel) rfl rfl (Nat.le_of_ble_eq_true rfl) d_M_value_30 (fun H locs hP hD hS => ?_)
  have hP : va_P D cls_ [(m0, .inr (4, [.int 0, .int (nI vn), .int (nI kn), .int (nI tn), .int (nI an), .int mo, .int tt, .int tf, .int mt, .int mf, .ref ma, .int (nI mn)])), (ma, .inl (cZ, 1024, .inl (io)))] H := hP
  have hD : va_D A [(m0, .inr (4, [.int 0, .int (nI vn), .int (nI kn), .int (nI tn), .int (nI an), .int mo, .int tt, .int tf, .int mt, .int mf, .ref ma, .int (nI mn)])), (ma, .inl (cZ, 1024, .inl (io)))] := hD
  refine lv_aload_n hx hb d_M_value_33 rfl (lv_at hl 0 rfl) ?_
  refine va_get (D := D) (ci := 4) (v := .int 0) (C := R_M) (T := T_M) (N := 12) hx hb hts u_M hown hK hP 0 rfl rfl 0 (by decide) (hts _ f_M_17) (fun _ h9 => h9) rfl d_M_value_34 ?_
  refine lv_if_ne (tgt := 68) hx hb d_M_value_37 rfl (fun hc37 => absurd rfl hc37) (fun hc37 => ?_)
  refine lv_iload_n hx hb d_M_value_40 rfl (lv_at hl 1 rfl) ?_
  refine lv_aload_n hx hb d_M_value_41 rfl (lv_at hl 0 rfl) ?_
  refine va_get (D := D) (ci := 4) (v := .int (nI mn)) (C := R_M) (T := T_M) (N := 12) hx hb hts u_M hown hK hP 0 rfl rfl 11 (by decide) (hts _ f_M_55) (fun _ h9 => h9) rfl d_M_value_42 ?_
  refine lv_icmp_gt (tgt := 68) hx hb d_M_value_45 rfl (fun hc45 => ?_) (fun hc45 => ?_)
  · refine lv_iconst (v := 0) hx hb d_M_value_68 (by decide) ?_
    exact fin _ _ _ _ _ hP hD hS ((if_neg (fun h => Int32.not_lt.mpr h.1 hc45)).symm) d_M_value_69
  · refine lv_aload_n hx hb d_M_value_48 rfl (lv_at hl 0 rfl) ?_
    refine va_get (D := D) (ci := 4) (v := .int mo) (C := R_M) (T := T_M) (N := 12) hx hb hts u_M hown hK hP 0 rfl rfl 5 (by decide) (hts _ f_M_7) (fun _ h9 => h9) rfl d_M_value_49 ?_
    refine lv_aload_n hx hb d_M_value_52 rfl (lv_at hl 0 rfl) ?_
    refine va_get (D := D) (ci := 4) (v := .int (nI mn)) (C := R_M) (T := T_M) (N := 12) hx hb hts u_M hown hK hP 0 rfl rfl 11 (by decide) (hts _ f_M_55) (fun _ h9 => h9) rfl d_M_value_53 ?_
    refine lv_iload_n hx hb d_M_value_56 rfl (lv_at hl 1 rfl) ?_
    refine lv_isub hx hb d_M_value_57 ?_
    refine lv_ishr hx hb d_M_value_58 ?_
    refine lv_iconst (v := 1) hx hb d_M_value_59 (by decide) ?_
    refine lv_iand hx hb d_M_value_60 ?_
    refine lv_if_eq (tgt := 68) hx hb d_M_value_61 rfl (fun hc61 => ?_) (fun hc61 => ?_)
    · refine lv_iconst (v := 0) hx hb d_M_value_68 (by decide) ?_
      exact fin _ _ _ _ _ hP hD hS ((if_neg (fun h => h.2 hc61)).symm) d_M_value_69
    · refine lv_iconst (v := 1) hx hb d_M_value_64 (by decide) ?_
      refine lv_goto (tgt := 69) hx hb d_M_value_65 rfl ?_
      exact fin _ _ _ _ _ hP hD hS ((if_pos ⟨Int32.not_lt.mp hc45, hc61⟩).symm) d_M_value_69
set_option maxHeartbeats 4000000 in
set_option maxRecDepth 100000 in
theorem k_M_count (l : Launch) (D : va_G) (cZ : ClassId) (m0 ma : Nat) (th : Int32) (vn kn tn an : Nat) (mo tt tf mt mf : Int32) (io : Nat → Int32) (mn : Nat) (x : Int32) : KTi l y_M_count c_M_count 2 .int { frames := 0, cells := 0, slots := 0, locals := 0 } D [(cZ, .boolean)] [.ref m0, .int x] (wM cZ m0 ma th vn kn tn an mo tt tf mt mf io mn) (cntm an vn kn tn mo x) (wM cZ m0 ma 0 vn kn tn an mo tt tf mt mf io mn) := by
  refine KTi_of (own := R_M) (by decide +kernel) rfl (Nat.le_of_ble_eq_true rfl) (vp_nar_int _) ?_
  intro p e st m below meth c A ls Q hx hb hml hts hown hK hP hD hS hA hl fin
  refine lv_aload_n hx hb d_M_count_0 rfl (lv_at hl 0 rfl) ?_
  refine lv_iconst (v := 0) hx hb d_M_count_1 (by decide) ?_
  refine va_put (D := D) (ci := 4) (v := .int 0) (ty := .int) (C := R_M) (T := T_M) (N := 12) hx hb hts u_M t_M t_M_ok n_M hown hK hP hD hS 0 rfl rfl 0 (by decide) (hts _ f_M_17) (fun _ h9 => h9) rfl (by decide +kernel) rfl rfl (Nat.le_of_ble_eq_true rfl) d_M_count_2 (fun H locs hP hD hS => ?_)
  have hP : va_P D cls_ [(m0, .inr (4, [.int 0, .int (nI vn), .int (nI kn), .int (nI tn), .int (nI an), .int mo, .int tt, .int tf, .int mt, .int mf, .ref ma, .int (nI mn)])), (ma, .inl (cZ, 1024, .inl (io)))] H := hP
  have hD : va_D A [(m0, .inr (4, [.int 0, .int (nI vn), .int (nI kn), .int (nI tn), .int (nI an), .int mo, .int tt, .int tf, .int mt, .int mf, .ref ma, .int (nI mn)])), (ma, .inl (cZ, 1024, .inl (io)))] := hD
  refine lv_iload_n hx hb d_M_count_5 rfl (lv_at hl 1 rfl) ?_
  by_cases hx0 : x = 0
  · subst hx0
    refine lv_tableIn (tgt := 44) (off := 38) hx hb d_M_count_6 (by decide +kernel) (by decide +kernel) (by decide +kernel) rfl ?_
    refine lv_aload_n hx hb d_M_count_44 rfl (lv_at hl 0 rfl) ?_
    refine va_get (D := D) (ci := 4) (v := .int (nI vn)) (C := R_M) (T := T_M) (N := 12) hx hb hts u_M hown hK hP 0 rfl rfl 1 (by decide) (hts _ f_M_20) (fun _ h9 => h9) rfl d_M_count_45 ?_
    exact fin _ _ _ _ _ hP hD hS (rfl) d_M_count_48
  by_cases hx1 : x = 1
  · subst hx1
    refine lv_tableIn (tgt := 49) (off := 43) hx hb d_M_count_6 (by decide +kernel) (by decide +kernel) (by decide +kernel) rfl ?_
    refine lv_aload_n hx hb d_M_count_49 rfl (lv_at hl 0 rfl) ?_
    refine va_get (D := D) (ci := 4) (v := .int (nI kn)) (C := R_M) (T := T_M) (N := 12) hx hb hts u_M hown hK hP 0 rfl rfl 2 (by decide) (hts _ f_M_40) (fun _ h9 => h9) rfl d_M_count_50 ?_
    exact fin _ _ _ _ _ hP hD hS (rfl) d_M_count_53
  by_cases hx2 : x = 2
  · subst hx2
    refine lv_tableIn (tgt := 54) (off := 48) hx hb d_M_count_6 (by decide +kernel) (by decide +kernel) (by decide +kernel) rfl ?_
    refine lv_aload_n hx hb d_M_count_54 rfl (lv_at hl 0 rfl) ?_
    refine va_get (D := D) (ci := 4) (v := .int (nI tn)) (C := R_M) (T := T_M) (N := 12) hx hb hts u_M hown hK hP 0 rfl rfl 3 (by decide) (hts _ f_M_31) (fun _ h9 => h9) rfl d_M_count_55 ?_
    exact fin _ _ _ _ _ hP hD hS (rfl) d_M_count_58
  by_cases hx3 : x = 3
  · subst hx3
    refine lv_tableIn (tgt := 59) (off := 53) hx hb d_M_count_6 (by decide +kernel) (by decide +kernel) (by decide +kernel) rfl ?_
    refine lv_aload_n hx hb d_M_count_59 rfl (lv_at hl 0 rfl) ?_
    refine va_get (D := D) (ci := 4) (v := .int (nI an)) (C := R_M) (T := T_M) (N := 12) hx hb hts u_M hown hK hP 0 rfl rfl 4 (by decide) (hts _ f_M_43) (fun _ h9 => h9) rfl d_M_count_60 ?_
    exact fin _ _ _ _ _ hP hD hS (rfl) d_M_count_63
  by_cases hx4 : x = 4
  · subst hx4
    refine lv_tableIn (tgt := 64) (off := 58) hx hb d_M_count_6 (by decide +kernel) (by decide +kernel) (by decide +kernel) rfl ?_
    refine lv_aload_n hx hb d_M_count_64 rfl (lv_at hl 0 rfl) ?_
    refine va_get (D := D) (ci := 4) (v := .int mo) (C := R_M) (T := T_M) (N := 12) hx hb hts u_M hown hK hP 0 rfl rfl 5 (by decide) (hts _ f_M_7) (fun _ h9 => h9) rfl d_M_count_65 ?_
    refine lv_if_lt (tgt := 75) hx hb d_M_count_68 rfl (fun hc68 => ?_) (fun hc68 => ?_)
    · refine lv_iconst (v := 0) hx hb d_M_count_75 (by decide) ?_
      exact fin _ _ _ _ _ hP hD hS (by show _ = (if mo < 0 then 0 else 1); rw [if_pos hc68]) d_M_count_76
    · refine lv_iconst (v := 1) hx hb d_M_count_71 (by decide) ?_
      refine lv_goto (tgt := 76) hx hb d_M_count_72 rfl ?_
      exact fin _ _ _ _ _ hP hD hS (by show _ = (if mo < 0 then 0 else 1); rw [if_neg hc68]) d_M_count_76
  by_cases hx5 : x = 5
  · subst hx5
    refine lv_tableIn (tgt := 77) (off := 71) hx hb d_M_count_6 (by decide +kernel) (by decide +kernel) (by decide +kernel) rfl ?_
    refine lv_iconst (v := 0) hx hb d_M_count_77 (by decide) ?_
    exact fin _ _ _ _ _ hP hD hS (rfl) d_M_count_78
  refine lv_tableOut (tgt := 79) hx hb d_M_count_6 (sw_out hx0 hx1 hx2 hx3 hx4 hx5) rfl ?_
  refine lv_iconst (v := (-1)) hx hb d_M_count_79 (by decide) ?_
  exact fin _ _ _ _ _ hP hD hS ((cntm_out hx0 hx1 hx2 hx3 hx4 hx5).symm) d_M_count_80
end
section
/-! Part 36: ClauseCourt, the ways that don't throw of the methods that may, by program (wip/whole/gen_court2.py) -/
theorem gv_DW (am : Nat → Int32) : ∀ (k i : Nat) {d : DS}, DW d → DW (gv am k i d) := by
  intro k
  induction k with
  | zero => intro i d h; exact h
  | succ k ih => intro i d h; exact ih (i + 1) (DW_append h)
set_option maxHeartbeats 4000000 in
set_option maxRecDepth 100000 in
theorem k_C_needLiteral (l : Launch) (D : va_G) (cI : ClassId) (q qa g b b1 b2 h a1 a2 a3 a4 : Nat) (am : Nat → Int32) (an vn kn : Nat) (tm : Int32) (tn : Nat) (hm mo f0 : Int32) (s : SS) (d : DS) (x : Int32) (hx9 : LOK vn x) : KTv l y_C_needLiteral c_C_needLiteral 2 { frames := 8, cells := 0, slots := 0, locals := 120 } D [(cI, .int)] [.ref q, .int x] (wC cI q qa g b b1 b2 h a1 a2 a3 a4 am an vn kn tm tn hm mo f0 s d) (wC cI q qa g b b1 b2 h a1 a2 a3 a4 am an vn kn tm tn hm mo f0 s d) := by
  refine KTv_of (own := R_C) (by decide +kernel) rfl (Nat.le_of_ble_eq_true rfl) ?_
  intro p e st m below meth c A ls Q hx hb hml hts hown hK hP hD hS hA hl fin
  refine lv_iload_n hx hb d_C_needLiteral_0 rfl (lv_at hl 1 rfl) ?_
  refine lv_if_eq (tgt := 21) hx hb d_C_needLiteral_1 rfl (fun hc1 => absurd hc1 hx9.1) (fun hc1 => ?_)
  refine lv_iload_n hx hb d_C_needLiteral_4 rfl (lv_at hl 1 rfl) ?_
  refine lv_aload_n hx hb d_C_needLiteral_5 rfl (lv_at hl 0 rfl) ?_
  refine va_get (D := D) (ci := 3) (v := .int (nI vn)) (C := R_C) (T := T_C) (N := 11) hx hb hts u_C hown hK hP 0 rfl rfl 5 (by decide) (hts _ f_C_34) (fun _ h9 => h9) rfl d_C_needLiteral_6 ?_
  refine lv_icmp_gt (tgt := 21) hx hb d_C_needLiteral_9 rfl (fun hc9 => absurd hx9.2.2 (Int32.not_le.mpr hc9)) (fun hc9 => ?_)
  refine lv_iload_n hx hb d_C_needLiteral_12 rfl (lv_at hl 1 rfl) ?_
  refine lv_aload_n hx hb d_C_needLiteral_13 rfl (lv_at hl 0 rfl) ?_
  refine va_get (D := D) (ci := 3) (v := .int (nI vn)) (C := R_C) (T := T_C) (N := 11) hx hb hts u_C hown hK hP 0 rfl rfl 5 (by decide) (hts _ f_C_34) (fun _ h9 => h9) rfl d_C_needLiteral_14 ?_
  refine lv_ineg hx hb d_C_needLiteral_17 ?_
  refine lv_icmp_ge (tgt := 31) hx hb d_C_needLiteral_18 rfl (fun hc18 => ?_) (fun hc18 => absurd hx9.2.1 hc18)
  exact fin _ _ _ _ hP hD hS d_C_needLiteral_31
set_option maxHeartbeats 4000000 in
set_option maxRecDepth 100000 in
theorem k_C_variable (l : Launch) (D : va_G) (cI : ClassId) (q qa g b b1 b2 h a1 a2 a3 a4 : Nat) (am : Nat → Int32) (an vn kn : Nat) (tm : Int32) (tn : Nat) (hm mo f0 : Int32) (s : SS) (d : DS) (hv : vn < 10) : KTi l y_C_variable c_C_variable 1 .int { frames := 8, cells := 0, slots := 0, locals := 120 } D [(cI, .int)] [.ref q] (wC cI q qa g b b1 b2 h a1 a2 a3 a4 am an vn kn tm tn hm mo f0 s d) (nI (vn + 1)) (wC cI q qa g b b1 b2 h a1 a2 a3 a4 am an ((vn + 1)) kn tm tn hm mo f0 s d) := by
  refine KTi_of (own := R_C) (by decide +kernel) rfl (Nat.le_of_ble_eq_true rfl) (vp_nar_int _) ?_
  intro p e st m below meth c A ls Q hx hb hml hts hown hK hP hD hS hA hl fin
  refine lv_aload_n hx hb d_C_variable_0 rfl (lv_at hl 0 rfl) ?_
  refine va_get (D := D) (ci := 3) (v := .int (nI vn)) (C := R_C) (T := T_C) (N := 11) hx hb hts u_C hown hK hP 0 rfl rfl 5 (by decide) (hts _ f_C_34) (fun _ h9 => h9) rfl d_C_variable_1 ?_
  refine lv_bipush (v := 10) hx hb d_C_variable_4 (by decide +kernel) ?_
  refine lv_icmp_lt (tgt := 19) hx hb d_C_variable_6 rfl (fun hc6 => ?_) (fun hc6 => absurd (nI_lt (b := 10) hv (by decide)) hc6)
  refine lv_aload_n hx hb d_C_variable_19 rfl (lv_at hl 0 rfl) ?_
  refine lv_dup hx hb d_C_variable_20 rfl ?_
  refine va_get (D := D) (ci := 3) (v := .int (nI vn)) (C := R_C) (T := T_C) (N := 11) hx hb hts u_C hown hK hP 0 rfl rfl 5 (by decide) (hts _ f_C_34) (fun _ h9 => h9) rfl d_C_variable_21 ?_
  refine lv_iconst (v := 1) hx hb d_C_variable_24 (by decide) ?_
  refine lv_iadd hx hb d_C_variable_25 ?_
  refine va_put (D := D) (ci := 3) (v := .int ((nI vn) + 1)) (ty := .int) (C := R_C) (T := T_C) (N := 11) hx hb hts u_C t_C t_C_ok n_C hown hK hP hD hS 0 rfl rfl 5 (by decide) (hts _ f_C_34) (fun _ h9 => h9) rfl (by decide +kernel) rfl rfl (Nat.le_of_ble_eq_true rfl) d_C_variable_26 (fun H locs hP hD hS => ?_)
  have hP : va_P D cls_ [(q, .inr (3, [.ref h, .ref b, .ref g, .ref qa, .int (nI an), .int ((nI vn) + 1), .int (nI kn), .int tm, .int (nI tn), .int hm, .int mo])), (qa, .inl (cI, 10, .inl (am))), (g, .inr (0, [.int f0])), (b, .inr (2, [.ref b1, .ref b2, .int (nI (sn s)), .int (sh s)])), (b1, .inl (cI, 10, .inl (sT s))), (b2, .inl (cI, 10, .inl (sR s))), (h, .inr (1, [.ref a1, .ref a2, .ref a3, .ref a4, .int (nI (dz d)), .int (nI (dl d)), .int (nI (dO d))])), (a1, .inl (cI, 1575, .inl (dC d))), (a2, .inl (cI, 1575, .inl (dF d))), (a3, .inl (cI, 1575, .inl (dT d))), (a4, .inl (cI, 3060, .inl (dK d)))] H := hP
  have hD : va_D A [(q, .inr (3, [.ref h, .ref b, .ref g, .ref qa, .int (nI an), .int ((nI vn) + 1), .int (nI kn), .int tm, .int (nI tn), .int hm, .int mo])), (qa, .inl (cI, 10, .inl (am))), (g, .inr (0, [.int f0])), (b, .inr (2, [.ref b1, .ref b2, .int (nI (sn s)), .int (sh s)])), (b1, .inl (cI, 10, .inl (sT s))), (b2, .inl (cI, 10, .inl (sR s))), (h, .inr (1, [.ref a1, .ref a2, .ref a3, .ref a4, .int (nI (dz d)), .int (nI (dl d)), .int (nI (dO d))])), (a1, .inl (cI, 1575, .inl (dC d))), (a2, .inl (cI, 1575, .inl (dF d))), (a3, .inl (cI, 1575, .inl (dT d))), (a4, .inl (cI, 3060, .inl (dK d)))] := hD
  refine lv_aload_n hx hb d_C_variable_29 rfl (lv_at hl 0 rfl) ?_
  refine va_get (D := D) (ci := 3) (v := .int ((nI vn) + 1)) (C := R_C) (T := T_C) (N := 11) hx hb hts u_C hown hK hP 0 rfl rfl 5 (by decide) (hts _ f_C_34) (fun _ h9 => h9) rfl d_C_variable_30 ?_
  rw [nI_1] at hP hD ⊢
  exact fin _ _ _ _ _ hP hD hS rfl d_C_variable_33
set_option maxHeartbeats 4000000 in
set_option maxRecDepth 100000 in
theorem k_C_literal (l : Launch) (D : va_G) (cI : ClassId) (q qa g b b1 b2 h a1 a2 a3 a4 : Nat) (am : Nat → Int32) (an vn kn : Nat) (tm : Int32) (tn : Nat) (hm mo f0 : Int32) (s : SS) (d : DS) (x : Int32) (hx9 : LOK vn x) (ht : tn < 12) : KTv l y_C_literal c_C_literal 2 { frames := 9, cells := 0, slots := 0, locals := 141 } D [(cI, .int)] [.ref q, .int x] (wC cI q qa g b b1 b2 h a1 a2 a3 a4 am an vn kn tm tn hm mo f0 s d) (wC cI q qa g b b1 b2 h a1 a2 a3 a4 am an vn kn ((tm ||| cc_of x)) ((tn + 1)) hm mo f0 s d) := by
  refine KTv_of (own := R_C) (by decide +kernel) rfl (Nat.le_of_ble_eq_true rfl) ?_
  intro p e st m below meth c A ls Q hx hb hml hts hown hK hP hD hS hA hl fin
  refine lv_aload_n hx hb d_C_literal_0 rfl (lv_at hl 0 rfl) ?_
  refine lv_iload_n hx hb d_C_literal_1 rfl (lv_at hl 1 rfl) ?_
  refine CTv_V (isC := [0, 1, 2, 3, 4, 5, 6, 7, 8, 9, 10]) (isR := []) (wr := []) (wi := [(q, .inr (3, [.ref h, .ref b, .ref g, .ref qa, .int (nI an), .int (nI vn), .int (nI kn), .int tm, .int (nI tn), .int hm, .int mo])), (qa, .inl (cI, 10, .inl (am))), (g, .inr (0, [.int f0])), (b, .inr (2, [.ref b1, .ref b2, .int (nI (sn s)), .int (sh s)])), (b1, .inl (cI, 10, .inl (sT s))), (b2, .inl (cI, 10, .inl (sR s))), (h, .inr (1, [.ref a1, .ref a2, .ref a3, .ref a4, .int (nI (dz d)), .int (nI (dl d)), .int (nI (dO d))])), (a1, .inl (cI, 1575, .inl (dC d))), (a2, .inl (cI, 1575, .inl (dF d))), (a3, .inl (cI, 1575, .inl (dT d))), (a4, .inl (cI, 3060, .inl (dK d)))]) (wo := [(q, .inr (3, [.ref h, .ref b, .ref g, .ref qa, .int (nI an), .int (nI vn), .int (nI kn), .int tm, .int (nI tn), .int hm, .int mo])), (qa, .inl (cI, 10, .inl (am))), (g, .inr (0, [.int f0])), (b, .inr (2, [.ref b1, .ref b2, .int (nI (sn s)), .int (sh s)])), (b1, .inl (cI, 10, .inl (sT s))), (b2, .inl (cI, 10, .inl (sR s))), (h, .inr (1, [.ref a1, .ref a2, .ref a3, .ref a4, .int (nI (dz d)), .int (nI (dl d)), .int (nI (dO d))])), (a1, .inl (cI, 1575, .inl (dC d))), (a2, .inl (cI, 1575, .inl (dF d))), (a3, .inl (cI, 1575, .inl (dT d))), (a4, .inl (cI, 3060, .inl (dK d)))]) (b := q) (As := [.int x]) (rest := []) ⟨hx, hb, hml, hown, hts⟩ [0] (k_C_needLiteral l D cI q qa g b b1 b2 h a1 a2 a3 a4 am an vn kn tm tn hm mo f0 s d x hx9) (cwV 1 hts v_C_45 rfl rfl rfl (by decide +kernel) ⟨Nat.le_of_ble_eq_true rfl, Nat.le_of_ble_eq_true rfl⟩) ⟨rfl, rfl, rfl, rfl, by decide⟩ rfl hK hP hD hS hA (va_recv (ci := 3) hK hP rfl (q0 := 0) rfl) rfl hl.1 (Nat.le_of_ble_eq_true rfl) d_C_literal_2 ⟨Nat.le_of_ble_eq_true rfl, Nat.le_of_ble_eq_true rfl⟩ (fun H locs hP hD hS => ?_)
  have hP : va_P D cls_ [(q, .inr (3, [.ref h, .ref b, .ref g, .ref qa, .int (nI an), .int (nI vn), .int (nI kn), .int tm, .int (nI tn), .int hm, .int mo])), (qa, .inl (cI, 10, .inl (am))), (g, .inr (0, [.int f0])), (b, .inr (2, [.ref b1, .ref b2, .int (nI (sn s)), .int (sh s)])), (b1, .inl (cI, 10, .inl (sT s))), (b2, .inl (cI, 10, .inl (sR s))), (h, .inr (1, [.ref a1, .ref a2, .ref a3, .ref a4, .int (nI (dz d)), .int (nI (dl d)), .int (nI (dO d))])), (a1, .inl (cI, 1575, .inl (dC d))), (a2, .inl (cI, 1575, .inl (dF d))), (a3, .inl (cI, 1575, .inl (dT d))), (a4, .inl (cI, 3060, .inl (dK d)))] H := hP
  have hD : va_D A [(q, .inr (3, [.ref h, .ref b, .ref g, .ref qa, .int (nI an), .int (nI vn), .int (nI kn), .int tm, .int (nI tn), .int hm, .int mo])), (qa, .inl (cI, 10, .inl (am))), (g, .inr (0, [.int f0])), (b, .inr (2, [.ref b1, .ref b2, .int (nI (sn s)), .int (sh s)])), (b1, .inl (cI, 10, .inl (sT s))), (b2, .inl (cI, 10, .inl (sR s))), (h, .inr (1, [.ref a1, .ref a2, .ref a3, .ref a4, .int (nI (dz d)), .int (nI (dl d)), .int (nI (dO d))])), (a1, .inl (cI, 1575, .inl (dC d))), (a2, .inl (cI, 1575, .inl (dF d))), (a3, .inl (cI, 1575, .inl (dT d))), (a4, .inl (cI, 3060, .inl (dK d)))] := hD
  refine lv_aload_n hx hb d_C_literal_5 rfl (lv_at hl 0 rfl) ?_
  refine va_get (D := D) (ci := 3) (v := .int (nI tn)) (C := R_C) (T := T_C) (N := 11) hx hb hts u_C hown hK hP 0 rfl rfl 8 (by decide) (hts _ f_C_49) (fun _ h9 => h9) rfl d_C_literal_6 ?_
  refine lv_bipush (v := 12) hx hb d_C_literal_9 (by decide +kernel) ?_
  refine lv_icmp_lt (tgt := 24) hx hb d_C_literal_11 rfl (fun hc11 => ?_) (fun hc11 => absurd (nI_lt (b := 12) ht (by decide)) hc11)
  refine lv_aload_n hx hb d_C_literal_24 rfl (lv_at hl 0 rfl) ?_
  refine lv_dup hx hb d_C_literal_25 rfl ?_
  refine va_get (D := D) (ci := 3) (v := .int tm) (C := R_C) (T := T_C) (N := 11) hx hb hts u_C hown hK hP 0 rfl rfl 7 (by decide) (hts _ f_C_54) (fun _ h9 => h9) rfl d_C_literal_26 ?_
  refine lv_iload_n hx hb d_C_literal_29 rfl (lv_at hl 1 rfl) ?_
  refine CTi_S (isC := []) (isR := [0, 1, 2, 3, 4, 5, 6, 7, 8, 9, 10]) (wr := [(q, .inr (3, [.ref h, .ref b, .ref g, .ref qa, .int (nI an), .int (nI vn), .int (nI kn), .int tm, .int (nI tn), .int hm, .int mo])), (qa, .inl (cI, 10, .inl (am))), (g, .inr (0, [.int f0])), (b, .inr (2, [.ref b1, .ref b2, .int (nI (sn s)), .int (sh s)])), (b1, .inl (cI, 10, .inl (sT s))), (b2, .inl (cI, 10, .inl (sR s))), (h, .inr (1, [.ref a1, .ref a2, .ref a3, .ref a4, .int (nI (dz d)), .int (nI (dl d)), .int (nI (dO d))])), (a1, .inl (cI, 1575, .inl (dC d))), (a2, .inl (cI, 1575, .inl (dF d))), (a3, .inl (cI, 1575, .inl (dT d))), (a4, .inl (cI, 3060, .inl (dK d)))]) (wi := []) (wo := []) (As := [.int x]) (rest := [.int tm, .ref q]) ⟨hx, hb, hml, hown, hts⟩ [] (k_L_of l D (x)) (va_cwS 1 hts v_C_57 rfl rfl rfl (by decide +kernel) ⟨Nat.le_of_ble_eq_true rfl, Nat.le_of_ble_eq_true rfl⟩) ⟨rfl, rfl, rfl, rfl, by decide⟩ rfl hK hP hD hS hA rfl hl.1 (Nat.le_of_ble_eq_true rfl) d_C_literal_30 ⟨Nat.le_of_ble_eq_true rfl, Nat.le_of_ble_eq_true rfl⟩ (fun H locs hP hD hS => ?_)
  have hP : va_P D cls_ [(q, .inr (3, [.ref h, .ref b, .ref g, .ref qa, .int (nI an), .int (nI vn), .int (nI kn), .int tm, .int (nI tn), .int hm, .int mo])), (qa, .inl (cI, 10, .inl (am))), (g, .inr (0, [.int f0])), (b, .inr (2, [.ref b1, .ref b2, .int (nI (sn s)), .int (sh s)])), (b1, .inl (cI, 10, .inl (sT s))), (b2, .inl (cI, 10, .inl (sR s))), (h, .inr (1, [.ref a1, .ref a2, .ref a3, .ref a4, .int (nI (dz d)), .int (nI (dl d)), .int (nI (dO d))])), (a1, .inl (cI, 1575, .inl (dC d))), (a2, .inl (cI, 1575, .inl (dF d))), (a3, .inl (cI, 1575, .inl (dT d))), (a4, .inl (cI, 3060, .inl (dK d)))] H := hP
  have hD : va_D A [(q, .inr (3, [.ref h, .ref b, .ref g, .ref qa, .int (nI an), .int (nI vn), .int (nI kn), .int tm, .int (nI tn), .int hm, .int mo])), (qa, .inl (cI, 10, .inl (am))), (g, .inr (0, [.int f0])), (b, .inr (2, [.ref b1, .ref b2, .int (nI (sn s)), .int (sh s)])), (b1, .inl (cI, 10, .inl (sT s))), (b2, .inl (cI, 10, .inl (sR s))), (h, .inr (1, [.ref a1, .ref a2, .ref a3, .ref a4, .int (nI (dz d)), .int (nI (dl d)), .int (nI (dO d))])), (a1, .inl (cI, 1575, .inl (dC d))), (a2, .inl (cI, 1575, .inl (dF d))), (a3, .inl (cI, 1575, .inl (dT d))), (a4, .inl (cI, 3060, .inl (dK d)))] := hD
  refine lv_ior hx hb d_C_literal_33 ?_
  refine va_put (D := D) (ci := 3) (v := .int (tm ||| (cc_of (x)))) (ty := .int) (C := R_C) (T := T_C) (N := 11) hx hb hts u_C t_C t_C_ok n_C hown hK hP hD hS 0 rfl rfl 7 (by decide) (hts _ f_C_54) (fun _ h9 => h9) rfl (by decide +kernel) rfl rfl (Nat.le_of_ble_eq_true rfl) d_C_literal_34 (fun H locs hP hD hS => ?_)
  have hP : va_P D cls_ [(q, .inr (3, [.ref h, .ref b, .ref g, .ref qa, .int (nI an), .int (nI vn), .int (nI kn), .int (tm ||| (cc_of (x))), .int (nI tn), .int hm, .int mo])), (qa, .inl (cI, 10, .inl (am))), (g, .inr (0, [.int f0])), (b, .inr (2, [.ref b1, .ref b2, .int (nI (sn s)), .int (sh s)])), (b1, .inl (cI, 10, .inl (sT s))), (b2, .inl (cI, 10, .inl (sR s))), (h, .inr (1, [.ref a1, .ref a2, .ref a3, .ref a4, .int (nI (dz d)), .int (nI (dl d)), .int (nI (dO d))])), (a1, .inl (cI, 1575, .inl (dC d))), (a2, .inl (cI, 1575, .inl (dF d))), (a3, .inl (cI, 1575, .inl (dT d))), (a4, .inl (cI, 3060, .inl (dK d)))] H := hP
  have hD : va_D A [(q, .inr (3, [.ref h, .ref b, .ref g, .ref qa, .int (nI an), .int (nI vn), .int (nI kn), .int (tm ||| (cc_of (x))), .int (nI tn), .int hm, .int mo])), (qa, .inl (cI, 10, .inl (am))), (g, .inr (0, [.int f0])), (b, .inr (2, [.ref b1, .ref b2, .int (nI (sn s)), .int (sh s)])), (b1, .inl (cI, 10, .inl (sT s))), (b2, .inl (cI, 10, .inl (sR s))), (h, .inr (1, [.ref a1, .ref a2, .ref a3, .ref a4, .int (nI (dz d)), .int (nI (dl d)), .int (nI (dO d))])), (a1, .inl (cI, 1575, .inl (dC d))), (a2, .inl (cI, 1575, .inl (dF d))), (a3, .inl (cI, 1575, .inl (dT d))), (a4, .inl (cI, 3060, .inl (dK d)))] := hD
  refine lv_aload_n hx hb d_C_literal_37 rfl (lv_at hl 0 rfl) ?_
  refine lv_dup hx hb d_C_literal_38 rfl ?_
  refine va_get (D := D) (ci := 3) (v := .int (nI tn)) (C := R_C) (T := T_C) (N := 11) hx hb hts u_C hown hK hP 0 rfl rfl 8 (by decide) (hts _ f_C_49) (fun _ h9 => h9) rfl d_C_literal_39 ?_
  refine lv_iconst (v := 1) hx hb d_C_literal_42 (by decide) ?_
  refine lv_iadd hx hb d_C_literal_43 ?_
  refine va_put (D := D) (ci := 3) (v := .int ((nI tn) + 1)) (ty := .int) (C := R_C) (T := T_C) (N := 11) hx hb hts u_C t_C t_C_ok n_C hown hK hP hD hS 0 rfl rfl 8 (by decide) (hts _ f_C_49) (fun _ h9 => h9) rfl (by decide +kernel) rfl rfl (Nat.le_of_ble_eq_true rfl) d_C_literal_44 (fun H locs hP hD hS => ?_)
  have hP : va_P D cls_ [(q, .inr (3, [.ref h, .ref b, .ref g, .ref qa, .int (nI an), .int (nI vn), .int (nI kn), .int (tm ||| (cc_of (x))), .int ((nI tn) + 1), .int hm, .int mo])), (qa, .inl (cI, 10, .inl (am))), (g, .inr (0, [.int f0])), (b, .inr (2, [.ref b1, .ref b2, .int (nI (sn s)), .int (sh s)])), (b1, .inl (cI, 10, .inl (sT s))), (b2, .inl (cI, 10, .inl (sR s))), (h, .inr (1, [.ref a1, .ref a2, .ref a3, .ref a4, .int (nI (dz d)), .int (nI (dl d)), .int (nI (dO d))])), (a1, .inl (cI, 1575, .inl (dC d))), (a2, .inl (cI, 1575, .inl (dF d))), (a3, .inl (cI, 1575, .inl (dT d))), (a4, .inl (cI, 3060, .inl (dK d)))] H := hP
  have hD : va_D A [(q, .inr (3, [.ref h, .ref b, .ref g, .ref qa, .int (nI an), .int (nI vn), .int (nI kn), .int (tm ||| (cc_of (x))), .int ((nI tn) + 1), .int hm, .int mo])), (qa, .inl (cI, 10, .inl (am))), (g, .inr (0, [.int f0])), (b, .inr (2, [.ref b1, .ref b2, .int (nI (sn s)), .int (sh s)])), (b1, .inl (cI, 10, .inl (sT s))), (b2, .inl (cI, 10, .inl (sR s))), (h, .inr (1, [.ref a1, .ref a2, .ref a3, .ref a4, .int (nI (dz d)), .int (nI (dl d)), .int (nI (dO d))])), (a1, .inl (cI, 1575, .inl (dC d))), (a2, .inl (cI, 1575, .inl (dF d))), (a3, .inl (cI, 1575, .inl (dT d))), (a4, .inl (cI, 3060, .inl (dK d)))] := hD
  rw [nI_1] at hP hD
  exact fin _ _ _ _ hP hD hS d_C_literal_47
set_option maxHeartbeats 4000000 in
set_option maxRecDepth 100000 in
theorem k_C_close (l : Launch) (D : va_G) (cI : ClassId) (q qa g b b1 b2 h a1 a2 a3 a4 : Nat) (am : Nat → Int32) (an vn kn : Nat) (tm : Int32) (tn : Nat) (hm mo f0 : Int32) (s : SS) (d : DS) (hd : DW d) (hv : kn < 500) : KTi l y_C_close c_C_close 1 .int { frames := 8, cells := 0, slots := 0, locals := 120 } D [(cI, .int)] [.ref q] (wC cI q qa g b b1 b2 h a1 a2 a3 a4 am an vn kn tm tn hm mo f0 s d) (nI kn) (wC cI q qa g b b1 b2 h a1 a2 a3 a4 am an vn ((kn + 1)) 0 0 hm mo f0 s ((dk_give d tm))) := by
  refine KTi_of (own := R_C) (by decide +kernel) rfl (Nat.le_of_ble_eq_true rfl) (vp_nar_int _) ?_
  intro p e st m below meth c A ls Q hx hb hml hts hown hK hP hD hS hA hl fin
  refine lv_aload_n hx hb d_C_close_0 rfl (lv_at hl 0 rfl) ?_
  refine va_get (D := D) (ci := 3) (v := .int (nI kn)) (C := R_C) (T := T_C) (N := 11) hx hb hts u_C hown hK hP 0 rfl rfl 6 (by decide) (hts _ f_C_63) (fun _ h9 => h9) rfl d_C_close_1 ?_
  refine lv_sipush (v := 500) hx hb d_C_close_4 (by decide +kernel) ?_
  refine lv_icmp_lt (tgt := 20) hx hb d_C_close_7 rfl (fun hc7 => ?_) (fun hc7 => absurd (nI_lt (b := 500) hv (by decide)) hc7)
  refine lv_aload_n hx hb d_C_close_20 rfl (lv_at hl 0 rfl) ?_
  refine va_get (D := D) (ci := 3) (v := .ref h) (C := R_C) (T := T_C) (N := 11) hx hb hts u_C hown hK hP 0 rfl rfl 0 (by decide) (hts _ f_C_10) (fun _ h9 => h9) rfl d_C_close_21 ?_
  refine lv_aload_n hx hb d_C_close_24 rfl (lv_at hl 0 rfl) ?_
  refine va_get (D := D) (ci := 3) (v := .int tm) (C := R_C) (T := T_C) (N := 11) hx hb hts u_C hown hK hP 0 rfl rfl 7 (by decide) (hts _ f_C_54) (fun _ h9 => h9) rfl d_C_close_25 ?_
  refine CTv_V (isC := [6, 7, 8, 9, 10]) (isR := [0, 1, 2, 3, 4, 5]) (wr := [(q, .inr (3, [.ref h, .ref b, .ref g, .ref qa, .int (nI an), .int (nI vn), .int (nI kn), .int tm, .int (nI tn), .int hm, .int mo])), (qa, .inl (cI, 10, .inl (am))), (g, .inr (0, [.int f0])), (b, .inr (2, [.ref b1, .ref b2, .int (nI (sn s)), .int (sh s)])), (b1, .inl (cI, 10, .inl (sT s))), (b2, .inl (cI, 10, .inl (sR s)))]) (wi := [(h, .inr (1, [.ref a1, .ref a2, .ref a3, .ref a4, .int (nI (dz d)), .int (nI (dl d)), .int (nI (dO d))])), (a1, .inl (cI, 1575, .inl (dC d))), (a2, .inl (cI, 1575, .inl (dF d))), (a3, .inl (cI, 1575, .inl (dT d))), (a4, .inl (cI, 3060, .inl (dK d)))]) (wo := [(h, .inr (1, [.ref a1, .ref a2, .ref a3, .ref a4, .int (nI (dz (dk_give d tm))), .int (nI (dl (dk_give d tm))), .int (nI (dO (dk_give d tm)))])), (a1, .inl (cI, 1575, .inl (dC (dk_give d tm)))), (a2, .inl (cI, 1575, .inl (dF (dk_give d tm)))), (a3, .inl (cI, 1575, .inl (dT (dk_give d tm)))), (a4, .inl (cI, 3060, .inl (dK (dk_give d tm))))]) (b := h) (As := [.int tm]) (rest := []) ⟨hx, hb, hml, hown, hts⟩ [0] (k_D_give l D cI h a1 a2 a3 a4 d hd tm) (cwV 1 hts v_C_68 rfl rfl rfl (by decide +kernel) ⟨Nat.le_of_ble_eq_true rfl, Nat.le_of_ble_eq_true rfl⟩) ⟨rfl, rfl, rfl, rfl, by decide⟩ rfl hK hP hD hS hA (va_recv (ci := 1) hK hP rfl (q0 := 6) rfl) rfl hl.1 (Nat.le_of_ble_eq_true rfl) d_C_close_28 ⟨Nat.le_of_ble_eq_true rfl, Nat.le_of_ble_eq_true rfl⟩ (fun H locs hP hD hS => ?_)
  have hP : va_P D cls_ [(q, .inr (3, [.ref h, .ref b, .ref g, .ref qa, .int (nI an), .int (nI vn), .int (nI kn), .int tm, .int (nI tn), .int hm, .int mo])), (qa, .inl (cI, 10, .inl (am))), (g, .inr (0, [.int f0])), (b, .inr (2, [.ref b1, .ref b2, .int (nI (sn s)), .int (sh s)])), (b1, .inl (cI, 10, .inl (sT s))), (b2, .inl (cI, 10, .inl (sR s))), (h, .inr (1, [.ref a1, .ref a2, .ref a3, .ref a4, .int (nI (dz (dk_give d tm))), .int (nI (dl (dk_give d tm))), .int (nI (dO (dk_give d tm)))])), (a1, .inl (cI, 1575, .inl (dC (dk_give d tm)))), (a2, .inl (cI, 1575, .inl (dF (dk_give d tm)))), (a3, .inl (cI, 1575, .inl (dT (dk_give d tm)))), (a4, .inl (cI, 3060, .inl (dK (dk_give d tm))))] H := hP
  have hD : va_D A [(q, .inr (3, [.ref h, .ref b, .ref g, .ref qa, .int (nI an), .int (nI vn), .int (nI kn), .int tm, .int (nI tn), .int hm, .int mo])), (qa, .inl (cI, 10, .inl (am))), (g, .inr (0, [.int f0])), (b, .inr (2, [.ref b1, .ref b2, .int (nI (sn s)), .int (sh s)])), (b1, .inl (cI, 10, .inl (sT s))), (b2, .inl (cI, 10, .inl (sR s))), (h, .inr (1, [.ref a1, .ref a2, .ref a3, .ref a4, .int (nI (dz (dk_give d tm))), .int (nI (dl (dk_give d tm))), .int (nI (dO (dk_give d tm)))])), (a1, .inl (cI, 1575, .inl (dC (dk_give d tm)))), (a2, .inl (cI, 1575, .inl (dF (dk_give d tm)))), (a3, .inl (cI, 1575, .inl (dT (dk_give d tm)))), (a4, .inl (cI, 3060, .inl (dK (dk_give d tm))))] := hD
  refine lv_aload_n hx hb d_C_close_31 rfl (lv_at hl 0 rfl) ?_
  refine lv_iconst (v := 0) hx hb d_C_close_32 (by decide) ?_
  refine va_put (D := D) (ci := 3) (v := .int 0) (ty := .int) (C := R_C) (T := T_C) (N := 11) hx hb hts u_C t_C t_C_ok n_C hown hK hP hD hS 0 rfl rfl 7 (by decide) (hts _ f_C_54) (fun _ h9 => h9) rfl (by decide +kernel) rfl rfl (Nat.le_of_ble_eq_true rfl) d_C_close_33 (fun H locs hP hD hS => ?_)
  have hP : va_P D cls_ [(q, .inr (3, [.ref h, .ref b, .ref g, .ref qa, .int (nI an), .int (nI vn), .int (nI kn), .int 0, .int (nI tn), .int hm, .int mo])), (qa, .inl (cI, 10, .inl (am))), (g, .inr (0, [.int f0])), (b, .inr (2, [.ref b1, .ref b2, .int (nI (sn s)), .int (sh s)])), (b1, .inl (cI, 10, .inl (sT s))), (b2, .inl (cI, 10, .inl (sR s))), (h, .inr (1, [.ref a1, .ref a2, .ref a3, .ref a4, .int (nI (dz (dk_give d tm))), .int (nI (dl (dk_give d tm))), .int (nI (dO (dk_give d tm)))])), (a1, .inl (cI, 1575, .inl (dC (dk_give d tm)))), (a2, .inl (cI, 1575, .inl (dF (dk_give d tm)))), (a3, .inl (cI, 1575, .inl (dT (dk_give d tm)))), (a4, .inl (cI, 3060, .inl (dK (dk_give d tm))))] H := hP
  have hD : va_D A [(q, .inr (3, [.ref h, .ref b, .ref g, .ref qa, .int (nI an), .int (nI vn), .int (nI kn), .int 0, .int (nI tn), .int hm, .int mo])), (qa, .inl (cI, 10, .inl (am))), (g, .inr (0, [.int f0])), (b, .inr (2, [.ref b1, .ref b2, .int (nI (sn s)), .int (sh s)])), (b1, .inl (cI, 10, .inl (sT s))), (b2, .inl (cI, 10, .inl (sR s))), (h, .inr (1, [.ref a1, .ref a2, .ref a3, .ref a4, .int (nI (dz (dk_give d tm))), .int (nI (dl (dk_give d tm))), .int (nI (dO (dk_give d tm)))])), (a1, .inl (cI, 1575, .inl (dC (dk_give d tm)))), (a2, .inl (cI, 1575, .inl (dF (dk_give d tm)))), (a3, .inl (cI, 1575, .inl (dT (dk_give d tm)))), (a4, .inl (cI, 3060, .inl (dK (dk_give d tm))))] := hD
  refine lv_aload_n hx hb d_C_close_36 rfl (lv_at hl 0 rfl) ?_
  refine lv_iconst (v := 0) hx hb d_C_close_37 (by decide) ?_
  refine va_put (D := D) (ci := 3) (v := .int 0) (ty := .int) (C := R_C) (T := T_C) (N := 11) hx hb hts u_C t_C t_C_ok n_C hown hK hP hD hS 0 rfl rfl 8 (by decide) (hts _ f_C_49) (fun _ h9 => h9) rfl (by decide +kernel) rfl rfl (Nat.le_of_ble_eq_true rfl) d_C_close_38 (fun H locs hP hD hS => ?_)
  have hP : va_P D cls_ [(q, .inr (3, [.ref h, .ref b, .ref g, .ref qa, .int (nI an), .int (nI vn), .int (nI kn), .int 0, .int 0, .int hm, .int mo])), (qa, .inl (cI, 10, .inl (am))), (g, .inr (0, [.int f0])), (b, .inr (2, [.ref b1, .ref b2, .int (nI (sn s)), .int (sh s)])), (b1, .inl (cI, 10, .inl (sT s))), (b2, .inl (cI, 10, .inl (sR s))), (h, .inr (1, [.ref a1, .ref a2, .ref a3, .ref a4, .int (nI (dz (dk_give d tm))), .int (nI (dl (dk_give d tm))), .int (nI (dO (dk_give d tm)))])), (a1, .inl (cI, 1575, .inl (dC (dk_give d tm)))), (a2, .inl (cI, 1575, .inl (dF (dk_give d tm)))), (a3, .inl (cI, 1575, .inl (dT (dk_give d tm)))), (a4, .inl (cI, 3060, .inl (dK (dk_give d tm))))] H := hP
  have hD : va_D A [(q, .inr (3, [.ref h, .ref b, .ref g, .ref qa, .int (nI an), .int (nI vn), .int (nI kn), .int 0, .int 0, .int hm, .int mo])), (qa, .inl (cI, 10, .inl (am))), (g, .inr (0, [.int f0])), (b, .inr (2, [.ref b1, .ref b2, .int (nI (sn s)), .int (sh s)])), (b1, .inl (cI, 10, .inl (sT s))), (b2, .inl (cI, 10, .inl (sR s))), (h, .inr (1, [.ref a1, .ref a2, .ref a3, .ref a4, .int (nI (dz (dk_give d tm))), .int (nI (dl (dk_give d tm))), .int (nI (dO (dk_give d tm)))])), (a1, .inl (cI, 1575, .inl (dC (dk_give d tm)))), (a2, .inl (cI, 1575, .inl (dF (dk_give d tm)))), (a3, .inl (cI, 1575, .inl (dT (dk_give d tm)))), (a4, .inl (cI, 3060, .inl (dK (dk_give d tm))))] := hD
  refine lv_aload_n hx hb d_C_close_41 rfl (lv_at hl 0 rfl) ?_
  refine lv_dup hx hb d_C_close_42 rfl ?_
  refine va_get (D := D) (ci := 3) (v := .int (nI kn)) (C := R_C) (T := T_C) (N := 11) hx hb hts u_C hown hK hP 0 rfl rfl 6 (by decide) (hts _ f_C_63) (fun _ h9 => h9) rfl d_C_close_43 ?_
  refine lv_iconst (v := 1) hx hb d_C_close_46 (by decide) ?_
  refine lv_iadd hx hb d_C_close_47 ?_
  refine va_put (D := D) (ci := 3) (v := .int ((nI kn) + 1)) (ty := .int) (C := R_C) (T := T_C) (N := 11) hx hb hts u_C t_C t_C_ok n_C hown hK hP hD hS 0 rfl rfl 6 (by decide) (hts _ f_C_63) (fun _ h9 => h9) rfl (by decide +kernel) rfl rfl (Nat.le_of_ble_eq_true rfl) d_C_close_48 (fun H locs hP hD hS => ?_)
  have hP : va_P D cls_ [(q, .inr (3, [.ref h, .ref b, .ref g, .ref qa, .int (nI an), .int (nI vn), .int ((nI kn) + 1), .int 0, .int 0, .int hm, .int mo])), (qa, .inl (cI, 10, .inl (am))), (g, .inr (0, [.int f0])), (b, .inr (2, [.ref b1, .ref b2, .int (nI (sn s)), .int (sh s)])), (b1, .inl (cI, 10, .inl (sT s))), (b2, .inl (cI, 10, .inl (sR s))), (h, .inr (1, [.ref a1, .ref a2, .ref a3, .ref a4, .int (nI (dz (dk_give d tm))), .int (nI (dl (dk_give d tm))), .int (nI (dO (dk_give d tm)))])), (a1, .inl (cI, 1575, .inl (dC (dk_give d tm)))), (a2, .inl (cI, 1575, .inl (dF (dk_give d tm)))), (a3, .inl (cI, 1575, .inl (dT (dk_give d tm)))), (a4, .inl (cI, 3060, .inl (dK (dk_give d tm))))] H := hP
  have hD : va_D A [(q, .inr (3, [.ref h, .ref b, .ref g, .ref qa, .int (nI an), .int (nI vn), .int ((nI kn) + 1), .int 0, .int 0, .int hm, .int mo])), (qa, .inl (cI, 10, .inl (am))), (g, .inr (0, [.int f0])), (b, .inr (2, [.ref b1, .ref b2, .int (nI (sn s)), .int (sh s)])), (b1, .inl (cI, 10, .inl (sT s))), (b2, .inl (cI, 10, .inl (sR s))), (h, .inr (1, [.ref a1, .ref a2, .ref a3, .ref a4, .int (nI (dz (dk_give d tm))), .int (nI (dl (dk_give d tm))), .int (nI (dO (dk_give d tm)))])), (a1, .inl (cI, 1575, .inl (dC (dk_give d tm)))), (a2, .inl (cI, 1575, .inl (dF (dk_give d tm)))), (a3, .inl (cI, 1575, .inl (dT (dk_give d tm)))), (a4, .inl (cI, 3060, .inl (dK (dk_give d tm))))] := hD
  refine lv_aload_n hx hb d_C_close_51 rfl (lv_at hl 0 rfl) ?_
  refine va_get (D := D) (ci := 3) (v := .int ((nI kn) + 1)) (C := R_C) (T := T_C) (N := 11) hx hb hts u_C hown hK hP 0 rfl rfl 6 (by decide) (hts _ f_C_63) (fun _ h9 => h9) rfl d_C_close_52 ?_
  refine lv_iconst (v := 1) hx hb d_C_close_55 (by decide) ?_
  refine lv_isub hx hb d_C_close_56 ?_
  rw [nI_1] at hP hD
  exact fin _ _ _ _ _ hP hD hS (by rw [nI_1, nI_pred]) d_C_close_57
set_option maxHeartbeats 4000000 in
set_option maxRecDepth 100000 in
theorem k_C_assume (l : Launch) (D : va_G) (cI : ClassId) (q qa g b b1 b2 h a1 a2 a3 a4 : Nat) (am : Nat → Int32) (an vn kn : Nat) (tm : Int32) (tn : Nat) (hm mo f0 : Int32) (s : SS) (d : DS) (x : Int32) (hx9 : LOK vn x) (ht : an < 10) : KTv l y_C_assume c_C_assume 2 { frames := 9, cells := 0, slots := 0, locals := 141 } D [(cI, .int)] [.ref q, .int x] (wC cI q qa g b b1 b2 h a1 a2 a3 a4 am an vn kn tm tn hm mo f0 s d) (wC cI q qa g b b1 b2 h a1 a2 a3 a4 ((upd am an (cc_of x))) ((an + 1)) vn kn tm tn hm mo f0 s d) := by
  refine KTv_of (own := R_C) (by decide +kernel) rfl (Nat.le_of_ble_eq_true rfl) ?_
  intro p e st m below meth c A ls Q hx hb hml hts hown hK hP hD hS hA hl fin
  refine lv_aload_n hx hb d_C_assume_0 rfl (lv_at hl 0 rfl) ?_
  refine lv_iload_n hx hb d_C_assume_1 rfl (lv_at hl 1 rfl) ?_
  refine CTv_V (isC := [0, 1, 2, 3, 4, 5, 6, 7, 8, 9, 10]) (isR := []) (wr := []) (wi := [(q, .inr (3, [.ref h, .ref b, .ref g, .ref qa, .int (nI an), .int (nI vn), .int (nI kn), .int tm, .int (nI tn), .int hm, .int mo])), (qa, .inl (cI, 10, .inl (am))), (g, .inr (0, [.int f0])), (b, .inr (2, [.ref b1, .ref b2, .int (nI (sn s)), .int (sh s)])), (b1, .inl (cI, 10, .inl (sT s))), (b2, .inl (cI, 10, .inl (sR s))), (h, .inr (1, [.ref a1, .ref a2, .ref a3, .ref a4, .int (nI (dz d)), .int (nI (dl d)), .int (nI (dO d))])), (a1, .inl (cI, 1575, .inl (dC d))), (a2, .inl (cI, 1575, .inl (dF d))), (a3, .inl (cI, 1575, .inl (dT d))), (a4, .inl (cI, 3060, .inl (dK d)))]) (wo := [(q, .inr (3, [.ref h, .ref b, .ref g, .ref qa, .int (nI an), .int (nI vn), .int (nI kn), .int tm, .int (nI tn), .int hm, .int mo])), (qa, .inl (cI, 10, .inl (am))), (g, .inr (0, [.int f0])), (b, .inr (2, [.ref b1, .ref b2, .int (nI (sn s)), .int (sh s)])), (b1, .inl (cI, 10, .inl (sT s))), (b2, .inl (cI, 10, .inl (sR s))), (h, .inr (1, [.ref a1, .ref a2, .ref a3, .ref a4, .int (nI (dz d)), .int (nI (dl d)), .int (nI (dO d))])), (a1, .inl (cI, 1575, .inl (dC d))), (a2, .inl (cI, 1575, .inl (dF d))), (a3, .inl (cI, 1575, .inl (dT d))), (a4, .inl (cI, 3060, .inl (dK d)))]) (b := q) (As := [.int x]) (rest := []) ⟨hx, hb, hml, hown, hts⟩ [0] (k_C_needLiteral l D cI q qa g b b1 b2 h a1 a2 a3 a4 am an vn kn tm tn hm mo f0 s d x hx9) (cwV 1 hts v_C_45 rfl rfl rfl (by decide +kernel) ⟨Nat.le_of_ble_eq_true rfl, Nat.le_of_ble_eq_true rfl⟩) ⟨rfl, rfl, rfl, rfl, by decide⟩ rfl hK hP hD hS hA (va_recv (ci := 3) hK hP rfl (q0 := 0) rfl) rfl hl.1 (Nat.le_of_ble_eq_true rfl) d_C_assume_2 ⟨Nat.le_of_ble_eq_true rfl, Nat.le_of_ble_eq_true rfl⟩ (fun H locs hP hD hS => ?_)
  have hP : va_P D cls_ [(q, .inr (3, [.ref h, .ref b, .ref g, .ref qa, .int (nI an), .int (nI vn), .int (nI kn), .int tm, .int (nI tn), .int hm, .int mo])), (qa, .inl (cI, 10, .inl (am))), (g, .inr (0, [.int f0])), (b, .inr (2, [.ref b1, .ref b2, .int (nI (sn s)), .int (sh s)])), (b1, .inl (cI, 10, .inl (sT s))), (b2, .inl (cI, 10, .inl (sR s))), (h, .inr (1, [.ref a1, .ref a2, .ref a3, .ref a4, .int (nI (dz d)), .int (nI (dl d)), .int (nI (dO d))])), (a1, .inl (cI, 1575, .inl (dC d))), (a2, .inl (cI, 1575, .inl (dF d))), (a3, .inl (cI, 1575, .inl (dT d))), (a4, .inl (cI, 3060, .inl (dK d)))] H := hP
  have hD : va_D A [(q, .inr (3, [.ref h, .ref b, .ref g, .ref qa, .int (nI an), .int (nI vn), .int (nI kn), .int tm, .int (nI tn), .int hm, .int mo])), (qa, .inl (cI, 10, .inl (am))), (g, .inr (0, [.int f0])), (b, .inr (2, [.ref b1, .ref b2, .int (nI (sn s)), .int (sh s)])), (b1, .inl (cI, 10, .inl (sT s))), (b2, .inl (cI, 10, .inl (sR s))), (h, .inr (1, [.ref a1, .ref a2, .ref a3, .ref a4, .int (nI (dz d)), .int (nI (dl d)), .int (nI (dO d))])), (a1, .inl (cI, 1575, .inl (dC d))), (a2, .inl (cI, 1575, .inl (dF d))), (a3, .inl (cI, 1575, .inl (dT d))), (a4, .inl (cI, 3060, .inl (dK d)))] := hD
  refine lv_aload_n hx hb d_C_assume_5 rfl (lv_at hl 0 rfl) ?_
  refine va_get (D := D) (ci := 3) (v := .int (nI an)) (C := R_C) (T := T_C) (N := 11) hx hb hts u_C hown hK hP 0 rfl rfl 4 (by decide) (hts _ f_C_71) (fun _ h9 => h9) rfl d_C_assume_6 ?_
  refine lv_bipush (v := 10) hx hb d_C_assume_9 (by decide +kernel) ?_
  refine lv_icmp_lt (tgt := 24) hx hb d_C_assume_11 rfl (fun hc11 => ?_) (fun hc11 => absurd (nI_lt (b := 10) ht (by decide)) hc11)
  refine lv_aload_n hx hb d_C_assume_24 rfl (lv_at hl 0 rfl) ?_
  refine va_get (D := D) (ci := 3) (v := .ref qa) (C := R_C) (T := T_C) (N := 11) hx hb hts u_C hown hK hP 0 rfl rfl 3 (by decide) (hts _ f_C_30) (fun _ h9 => h9) rfl d_C_assume_25 ?_
  refine lv_aload_n hx hb d_C_assume_28 rfl (lv_at hl 0 rfl) ?_
  refine va_get (D := D) (ci := 3) (v := .int (nI an)) (C := R_C) (T := T_C) (N := 11) hx hb hts u_C hown hK hP 0 rfl rfl 4 (by decide) (hts _ f_C_71) (fun _ h9 => h9) rfl d_C_assume_29 ?_
  refine lv_iload_n hx hb d_C_assume_32 rfl (lv_at hl 1 rfl) ?_
  refine CTi_S (isC := []) (isR := [0, 1, 2, 3, 4, 5, 6, 7, 8, 9, 10]) (wr := [(q, .inr (3, [.ref h, .ref b, .ref g, .ref qa, .int (nI an), .int (nI vn), .int (nI kn), .int tm, .int (nI tn), .int hm, .int mo])), (qa, .inl (cI, 10, .inl (am))), (g, .inr (0, [.int f0])), (b, .inr (2, [.ref b1, .ref b2, .int (nI (sn s)), .int (sh s)])), (b1, .inl (cI, 10, .inl (sT s))), (b2, .inl (cI, 10, .inl (sR s))), (h, .inr (1, [.ref a1, .ref a2, .ref a3, .ref a4, .int (nI (dz d)), .int (nI (dl d)), .int (nI (dO d))])), (a1, .inl (cI, 1575, .inl (dC d))), (a2, .inl (cI, 1575, .inl (dF d))), (a3, .inl (cI, 1575, .inl (dT d))), (a4, .inl (cI, 3060, .inl (dK d)))]) (wi := []) (wo := []) (As := [.int x]) (rest := [.int (nI an), .ref qa]) ⟨hx, hb, hml, hown, hts⟩ [] (k_L_of l D (x)) (va_cwS 1 hts v_C_57 rfl rfl rfl (by decide +kernel) ⟨Nat.le_of_ble_eq_true rfl, Nat.le_of_ble_eq_true rfl⟩) ⟨rfl, rfl, rfl, rfl, by decide⟩ rfl hK hP hD hS hA rfl hl.1 (Nat.le_of_ble_eq_true rfl) d_C_assume_33 ⟨Nat.le_of_ble_eq_true rfl, Nat.le_of_ble_eq_true rfl⟩ (fun H locs hP hD hS => ?_)
  have hP : va_P D cls_ [(q, .inr (3, [.ref h, .ref b, .ref g, .ref qa, .int (nI an), .int (nI vn), .int (nI kn), .int tm, .int (nI tn), .int hm, .int mo])), (qa, .inl (cI, 10, .inl (am))), (g, .inr (0, [.int f0])), (b, .inr (2, [.ref b1, .ref b2, .int (nI (sn s)), .int (sh s)])), (b1, .inl (cI, 10, .inl (sT s))), (b2, .inl (cI, 10, .inl (sR s))), (h, .inr (1, [.ref a1, .ref a2, .ref a3, .ref a4, .int (nI (dz d)), .int (nI (dl d)), .int (nI (dO d))])), (a1, .inl (cI, 1575, .inl (dC d))), (a2, .inl (cI, 1575, .inl (dF d))), (a3, .inl (cI, 1575, .inl (dT d))), (a4, .inl (cI, 3060, .inl (dK d)))] H := hP
  have hD : va_D A [(q, .inr (3, [.ref h, .ref b, .ref g, .ref qa, .int (nI an), .int (nI vn), .int (nI kn), .int tm, .int (nI tn), .int hm, .int mo])), (qa, .inl (cI, 10, .inl (am))), (g, .inr (0, [.int f0])), (b, .inr (2, [.ref b1, .ref b2, .int (nI (sn s)), .int (sh s)])), (b1, .inl (cI, 10, .inl (sT s))), (b2, .inl (cI, 10, .inl (sR s))), (h, .inr (1, [.ref a1, .ref a2, .ref a3, .ref a4, .int (nI (dz d)), .int (nI (dl d)), .int (nI (dO d))])), (a1, .inl (cI, 1575, .inl (dC d))), (a2, .inl (cI, 1575, .inl (dF d))), (a3, .inl (cI, 1575, .inl (dT d))), (a4, .inl (cI, 3060, .inl (dK d)))] := hD
  refine va_iast (D := D) (i := (nI an)) (x := (cc_of (x))) hx hb hK hP hD hS 1 0 rfl rfl (vp_in_nI ht (by decide)) d_C_assume_36 (fun H locs hP hD hS => ?_)
  rw [show ((nI an) : Int32).toNatClampNeg = an from nI_clamp (by omega)] at hP hD
  have hP : va_P D cls_ [(q, .inr (3, [.ref h, .ref b, .ref g, .ref qa, .int (nI an), .int (nI vn), .int (nI kn), .int tm, .int (nI tn), .int hm, .int mo])), (qa, .inl (cI, 10, .inl (upd (am) (an) ((cc_of (x)))))), (g, .inr (0, [.int f0])), (b, .inr (2, [.ref b1, .ref b2, .int (nI (sn s)), .int (sh s)])), (b1, .inl (cI, 10, .inl (sT s))), (b2, .inl (cI, 10, .inl (sR s))), (h, .inr (1, [.ref a1, .ref a2, .ref a3, .ref a4, .int (nI (dz d)), .int (nI (dl d)), .int (nI (dO d))])), (a1, .inl (cI, 1575, .inl (dC d))), (a2, .inl (cI, 1575, .inl (dF d))), (a3, .inl (cI, 1575, .inl (dT d))), (a4, .inl (cI, 3060, .inl (dK d)))] H := hP
  have hD : va_D A [(q, .inr (3, [.ref h, .ref b, .ref g, .ref qa, .int (nI an), .int (nI vn), .int (nI kn), .int tm, .int (nI tn), .int hm, .int mo])), (qa, .inl (cI, 10, .inl (upd (am) (an) ((cc_of (x)))))), (g, .inr (0, [.int f0])), (b, .inr (2, [.ref b1, .ref b2, .int (nI (sn s)), .int (sh s)])), (b1, .inl (cI, 10, .inl (sT s))), (b2, .inl (cI, 10, .inl (sR s))), (h, .inr (1, [.ref a1, .ref a2, .ref a3, .ref a4, .int (nI (dz d)), .int (nI (dl d)), .int (nI (dO d))])), (a1, .inl (cI, 1575, .inl (dC d))), (a2, .inl (cI, 1575, .inl (dF d))), (a3, .inl (cI, 1575, .inl (dT d))), (a4, .inl (cI, 3060, .inl (dK d)))] := hD
  refine lv_aload_n hx hb d_C_assume_37 rfl (lv_at hl 0 rfl) ?_
  refine lv_dup hx hb d_C_assume_38 rfl ?_
  refine va_get (D := D) (ci := 3) (v := .int (nI an)) (C := R_C) (T := T_C) (N := 11) hx hb hts u_C hown hK hP 0 rfl rfl 4 (by decide) (hts _ f_C_71) (fun _ h9 => h9) rfl d_C_assume_39 ?_
  refine lv_iconst (v := 1) hx hb d_C_assume_42 (by decide) ?_
  refine lv_iadd hx hb d_C_assume_43 ?_
  refine va_put (D := D) (ci := 3) (v := .int ((nI an) + 1)) (ty := .int) (C := R_C) (T := T_C) (N := 11) hx hb hts u_C t_C t_C_ok n_C hown hK hP hD hS 0 rfl rfl 4 (by decide) (hts _ f_C_71) (fun _ h9 => h9) rfl (by decide +kernel) rfl rfl (Nat.le_of_ble_eq_true rfl) d_C_assume_44 (fun H locs hP hD hS => ?_)
  have hP : va_P D cls_ [(q, .inr (3, [.ref h, .ref b, .ref g, .ref qa, .int ((nI an) + 1), .int (nI vn), .int (nI kn), .int tm, .int (nI tn), .int hm, .int mo])), (qa, .inl (cI, 10, .inl (upd (am) (an) ((cc_of (x)))))), (g, .inr (0, [.int f0])), (b, .inr (2, [.ref b1, .ref b2, .int (nI (sn s)), .int (sh s)])), (b1, .inl (cI, 10, .inl (sT s))), (b2, .inl (cI, 10, .inl (sR s))), (h, .inr (1, [.ref a1, .ref a2, .ref a3, .ref a4, .int (nI (dz d)), .int (nI (dl d)), .int (nI (dO d))])), (a1, .inl (cI, 1575, .inl (dC d))), (a2, .inl (cI, 1575, .inl (dF d))), (a3, .inl (cI, 1575, .inl (dT d))), (a4, .inl (cI, 3060, .inl (dK d)))] H := hP
  have hD : va_D A [(q, .inr (3, [.ref h, .ref b, .ref g, .ref qa, .int ((nI an) + 1), .int (nI vn), .int (nI kn), .int tm, .int (nI tn), .int hm, .int mo])), (qa, .inl (cI, 10, .inl (upd (am) (an) ((cc_of (x)))))), (g, .inr (0, [.int f0])), (b, .inr (2, [.ref b1, .ref b2, .int (nI (sn s)), .int (sh s)])), (b1, .inl (cI, 10, .inl (sT s))), (b2, .inl (cI, 10, .inl (sR s))), (h, .inr (1, [.ref a1, .ref a2, .ref a3, .ref a4, .int (nI (dz d)), .int (nI (dl d)), .int (nI (dO d))])), (a1, .inl (cI, 1575, .inl (dC d))), (a2, .inl (cI, 1575, .inl (dF d))), (a3, .inl (cI, 1575, .inl (dT d))), (a4, .inl (cI, 3060, .inl (dK d)))] := hD
  rw [nI_1] at hP hD
  exact fin _ _ _ _ hP hD hS d_C_assume_47
set_option maxHeartbeats 4000000 in
set_option maxRecDepth 100000 in
theorem k_C_follows (l : Launch) (D : va_G) (cI : ClassId) (q qa g b b1 b2 h a1 a2 a3 a4 : Nat) (am : Nat → Int32) (an vn kn : Nat) (tm : Int32) (tn : Nat) (hm mo f0 : Int32) (s : SS) (d : DS) (x : Int32) (han : an ≤ 10) (hkn : kn ≤ 500) (hs : sn s ≤ 10) (hd : DW d) (hvn : vn ≤ 10) (t : Nat → Nat) (g0 : Nat) (hg0 : g0 ≤ 551) (hFI : FI vn (dk_give (gv am an 0 d) (cc_of (-x))) (sT s, sR s, 0, 0) t 0 g0) (hx9 : LOK vn x) : KTi l y_C_follows c_C_follows 3 .boolean { frames := 9, cells := 0, slots := 0, locals := 141 } D [(cI, .int)] [.ref q, .int x] (wC cI q qa g b b1 b2 h a1 a2 a3 a4 am an vn kn tm tn hm mo f0 s d) (if (sr_find vn 100000 (dk_give (gv am an 0 d) (cc_of (-x))) (sT s, sR s, 0, 0)).1 = true then 0 else 1) (wC cI q qa g b b1 b2 h a1 a2 a3 a4 am 0 vn kn tm tn 0 0 f0 ((sr_find vn 100000 (dk_give (gv am an 0 d) (cc_of (-x))) (sT s, sR s, 0, 0)).2.2) ((dk_keep (sr_find vn 100000 (dk_give (gv am an 0 d) (cc_of (-x))) (sT s, sR s, 0, 0)).2.1 kn))) := by
  refine KTi_of (own := R_C) (by decide +kernel) rfl (Nat.le_of_ble_eq_true rfl) (nar_if2 _) ?_
  intro p e st m below meth c A ls Q hx hb hml hts hown hK hP hD hS hA hl fin
  obtain ⟨hd2, -, -⟩ := next_ok hvn hg0 hFI
  have hd1 : DW (gv am an 0 d) := gv_DW am an 0 hd
  refine lv_aload_n hx hb d_C_follows_0 rfl (lv_at hl 0 rfl) ?_
  refine lv_iload_n hx hb d_C_follows_1 rfl (lv_at hl 1 rfl) ?_
  refine CTv_V (isC := [0, 1, 2, 3, 4, 5, 6, 7, 8, 9, 10]) (isR := []) (wr := []) (wi := [(q, .inr (3, [.ref h, .ref b, .ref g, .ref qa, .int (nI an), .int (nI vn), .int (nI kn), .int tm, .int (nI tn), .int hm, .int mo])), (qa, .inl (cI, 10, .inl (am))), (g, .inr (0, [.int f0])), (b, .inr (2, [.ref b1, .ref b2, .int (nI (sn s)), .int (sh s)])), (b1, .inl (cI, 10, .inl (sT s))), (b2, .inl (cI, 10, .inl (sR s))), (h, .inr (1, [.ref a1, .ref a2, .ref a3, .ref a4, .int (nI (dz d)), .int (nI (dl d)), .int (nI (dO d))])), (a1, .inl (cI, 1575, .inl (dC d))), (a2, .inl (cI, 1575, .inl (dF d))), (a3, .inl (cI, 1575, .inl (dT d))), (a4, .inl (cI, 3060, .inl (dK d)))]) (wo := [(q, .inr (3, [.ref h, .ref b, .ref g, .ref qa, .int (nI an), .int (nI vn), .int (nI kn), .int tm, .int (nI tn), .int hm, .int mo])), (qa, .inl (cI, 10, .inl (am))), (g, .inr (0, [.int f0])), (b, .inr (2, [.ref b1, .ref b2, .int (nI (sn s)), .int (sh s)])), (b1, .inl (cI, 10, .inl (sT s))), (b2, .inl (cI, 10, .inl (sR s))), (h, .inr (1, [.ref a1, .ref a2, .ref a3, .ref a4, .int (nI (dz d)), .int (nI (dl d)), .int (nI (dO d))])), (a1, .inl (cI, 1575, .inl (dC d))), (a2, .inl (cI, 1575, .inl (dF d))), (a3, .inl (cI, 1575, .inl (dT d))), (a4, .inl (cI, 3060, .inl (dK d)))]) (b := q) (As := [.int x]) (rest := []) ⟨hx, hb, hml, hown, hts⟩ [0] (k_C_needLiteral l D cI q qa g b b1 b2 h a1 a2 a3 a4 am an vn kn tm tn hm mo f0 s d x hx9) (cwV 1 hts v_C_45 rfl rfl rfl (by decide +kernel) ⟨Nat.le_of_ble_eq_true rfl, Nat.le_of_ble_eq_true rfl⟩) ⟨rfl, rfl, rfl, rfl, by decide⟩ rfl hK hP hD hS hA (va_recv (ci := 3) hK hP rfl (q0 := 0) rfl) rfl hl.1 (Nat.le_of_ble_eq_true rfl) d_C_follows_2 ⟨Nat.le_of_ble_eq_true rfl, Nat.le_of_ble_eq_true rfl⟩ (fun H locs hP hD hS => ?_)
  have hP : va_P D cls_ [(q, .inr (3, [.ref h, .ref b, .ref g, .ref qa, .int (nI an), .int (nI vn), .int (nI kn), .int tm, .int (nI tn), .int hm, .int mo])), (qa, .inl (cI, 10, .inl (am))), (g, .inr (0, [.int f0])), (b, .inr (2, [.ref b1, .ref b2, .int (nI (sn s)), .int (sh s)])), (b1, .inl (cI, 10, .inl (sT s))), (b2, .inl (cI, 10, .inl (sR s))), (h, .inr (1, [.ref a1, .ref a2, .ref a3, .ref a4, .int (nI (dz d)), .int (nI (dl d)), .int (nI (dO d))])), (a1, .inl (cI, 1575, .inl (dC d))), (a2, .inl (cI, 1575, .inl (dF d))), (a3, .inl (cI, 1575, .inl (dT d))), (a4, .inl (cI, 3060, .inl (dK d)))] H := hP
  have hD : va_D A [(q, .inr (3, [.ref h, .ref b, .ref g, .ref qa, .int (nI an), .int (nI vn), .int (nI kn), .int tm, .int (nI tn), .int hm, .int mo])), (qa, .inl (cI, 10, .inl (am))), (g, .inr (0, [.int f0])), (b, .inr (2, [.ref b1, .ref b2, .int (nI (sn s)), .int (sh s)])), (b1, .inl (cI, 10, .inl (sT s))), (b2, .inl (cI, 10, .inl (sR s))), (h, .inr (1, [.ref a1, .ref a2, .ref a3, .ref a4, .int (nI (dz d)), .int (nI (dl d)), .int (nI (dO d))])), (a1, .inl (cI, 1575, .inl (dC d))), (a2, .inl (cI, 1575, .inl (dF d))), (a3, .inl (cI, 1575, .inl (dT d))), (a4, .inl (cI, 3060, .inl (dK d)))] := hD
  refine lv_aload_n hx hb d_C_follows_5 rfl (lv_at hl 0 rfl) ?_
  refine CTv_V (isC := [0, 1, 2, 3, 4, 5, 6, 7, 8, 9, 10]) (isR := []) (wr := []) (wi := [(q, .inr (3, [.ref h, .ref b, .ref g, .ref qa, .int (nI an), .int (nI vn), .int (nI kn), .int tm, .int (nI tn), .int hm, .int mo])), (qa, .inl (cI, 10, .inl (am))), (g, .inr (0, [.int f0])), (b, .inr (2, [.ref b1, .ref b2, .int (nI (sn s)), .int (sh s)])), (b1, .inl (cI, 10, .inl (sT s))), (b2, .inl (cI, 10, .inl (sR s))), (h, .inr (1, [.ref a1, .ref a2, .ref a3, .ref a4, .int (nI (dz d)), .int (nI (dl d)), .int (nI (dO d))])), (a1, .inl (cI, 1575, .inl (dC d))), (a2, .inl (cI, 1575, .inl (dF d))), (a3, .inl (cI, 1575, .inl (dT d))), (a4, .inl (cI, 3060, .inl (dK d)))]) (wo := [(q, .inr (3, [.ref h, .ref b, .ref g, .ref qa, .int (nI 0), .int (nI vn), .int (nI kn), .int tm, .int (nI tn), .int 0, .int 0])), (qa, .inl (cI, 10, .inl (am))), (g, .inr (0, [.int f0])), (b, .inr (2, [.ref b1, .ref b2, .int (nI (sn ((sT s, sR s, 0, 0)))), .int (sh ((sT s, sR s, 0, 0)))])), (b1, .inl (cI, 10, .inl (sT ((sT s, sR s, 0, 0))))), (b2, .inl (cI, 10, .inl (sR ((sT s, sR s, 0, 0))))), (h, .inr (1, [.ref a1, .ref a2, .ref a3, .ref a4, .int (nI (dz ((gv am an 0 d)))), .int (nI (dl ((gv am an 0 d)))), .int (nI (dO ((gv am an 0 d))))])), (a1, .inl (cI, 1575, .inl (dC ((gv am an 0 d))))), (a2, .inl (cI, 1575, .inl (dF ((gv am an 0 d))))), (a3, .inl (cI, 1575, .inl (dT ((gv am an 0 d))))), (a4, .inl (cI, 3060, .inl (dK ((gv am an 0 d)))))]) (b := q) (As := []) (rest := []) ⟨hx, hb, hml, hown, hts⟩ [0] (k_C_openQuestion l D cI q qa g b b1 b2 h a1 a2 a3 a4 am an vn kn tm tn hm mo f0 s d han hs hd) (cwV 0 hts v_C_76 rfl rfl rfl (by decide +kernel) ⟨Nat.le_of_ble_eq_true rfl, Nat.le_of_ble_eq_true rfl⟩) ⟨rfl, rfl, rfl, rfl, by decide⟩ rfl hK hP hD hS hA (va_recv (ci := 3) hK hP rfl (q0 := 0) rfl) rfl hl.1 (Nat.le_of_ble_eq_true rfl) d_C_follows_6 ⟨Nat.le_of_ble_eq_true rfl, Nat.le_of_ble_eq_true rfl⟩ (fun H locs hP hD hS => ?_)
  have hP : va_P D cls_ [(q, .inr (3, [.ref h, .ref b, .ref g, .ref qa, .int (nI 0), .int (nI vn), .int (nI kn), .int tm, .int (nI tn), .int 0, .int 0])), (qa, .inl (cI, 10, .inl (am))), (g, .inr (0, [.int f0])), (b, .inr (2, [.ref b1, .ref b2, .int (nI (sn ((sT s, sR s, 0, 0)))), .int (sh ((sT s, sR s, 0, 0)))])), (b1, .inl (cI, 10, .inl (sT ((sT s, sR s, 0, 0))))), (b2, .inl (cI, 10, .inl (sR ((sT s, sR s, 0, 0))))), (h, .inr (1, [.ref a1, .ref a2, .ref a3, .ref a4, .int (nI (dz ((gv am an 0 d)))), .int (nI (dl ((gv am an 0 d)))), .int (nI (dO ((gv am an 0 d))))])), (a1, .inl (cI, 1575, .inl (dC ((gv am an 0 d))))), (a2, .inl (cI, 1575, .inl (dF ((gv am an 0 d))))), (a3, .inl (cI, 1575, .inl (dT ((gv am an 0 d))))), (a4, .inl (cI, 3060, .inl (dK ((gv am an 0 d)))))] H := hP
  have hD : va_D A [(q, .inr (3, [.ref h, .ref b, .ref g, .ref qa, .int (nI 0), .int (nI vn), .int (nI kn), .int tm, .int (nI tn), .int 0, .int 0])), (qa, .inl (cI, 10, .inl (am))), (g, .inr (0, [.int f0])), (b, .inr (2, [.ref b1, .ref b2, .int (nI (sn ((sT s, sR s, 0, 0)))), .int (sh ((sT s, sR s, 0, 0)))])), (b1, .inl (cI, 10, .inl (sT ((sT s, sR s, 0, 0))))), (b2, .inl (cI, 10, .inl (sR ((sT s, sR s, 0, 0))))), (h, .inr (1, [.ref a1, .ref a2, .ref a3, .ref a4, .int (nI (dz ((gv am an 0 d)))), .int (nI (dl ((gv am an 0 d)))), .int (nI (dO ((gv am an 0 d))))])), (a1, .inl (cI, 1575, .inl (dC ((gv am an 0 d))))), (a2, .inl (cI, 1575, .inl (dF ((gv am an 0 d))))), (a3, .inl (cI, 1575, .inl (dT ((gv am an 0 d))))), (a4, .inl (cI, 3060, .inl (dK ((gv am an 0 d)))))] := hD
  refine lv_aload_n hx hb d_C_follows_9 rfl (lv_at hl 0 rfl) ?_
  refine va_get (D := D) (ci := 3) (v := .ref h) (C := R_C) (T := T_C) (N := 11) hx hb hts u_C hown hK hP 0 rfl rfl 0 (by decide) (hts _ f_C_10) (fun _ h9 => h9) rfl d_C_follows_10 ?_
  refine lv_iload_n hx hb d_C_follows_13 rfl (lv_at hl 1 rfl) ?_
  refine lv_ineg hx hb d_C_follows_14 ?_
  refine CTi_S (isC := []) (isR := [0, 1, 2, 3, 4, 5, 6, 7, 8, 9, 10]) (wr := [(q, .inr (3, [.ref h, .ref b, .ref g, .ref qa, .int (nI 0), .int (nI vn), .int (nI kn), .int tm, .int (nI tn), .int 0, .int 0])), (qa, .inl (cI, 10, .inl (am))), (g, .inr (0, [.int f0])), (b, .inr (2, [.ref b1, .ref b2, .int (nI (sn ((sT s, sR s, 0, 0)))), .int (sh ((sT s, sR s, 0, 0)))])), (b1, .inl (cI, 10, .inl (sT ((sT s, sR s, 0, 0))))), (b2, .inl (cI, 10, .inl (sR ((sT s, sR s, 0, 0))))), (h, .inr (1, [.ref a1, .ref a2, .ref a3, .ref a4, .int (nI (dz ((gv am an 0 d)))), .int (nI (dl ((gv am an 0 d)))), .int (nI (dO ((gv am an 0 d))))])), (a1, .inl (cI, 1575, .inl (dC ((gv am an 0 d))))), (a2, .inl (cI, 1575, .inl (dF ((gv am an 0 d))))), (a3, .inl (cI, 1575, .inl (dT ((gv am an 0 d))))), (a4, .inl (cI, 3060, .inl (dK ((gv am an 0 d)))))]) (wi := []) (wo := []) (As := [.int (-x)]) (rest := [.ref h]) ⟨hx, hb, hml, hown, hts⟩ [] (k_L_of l D ((-x))) (va_cwS 1 hts v_C_57 rfl rfl rfl (by decide +kernel) ⟨Nat.le_of_ble_eq_true rfl, Nat.le_of_ble_eq_true rfl⟩) ⟨rfl, rfl, rfl, rfl, by decide⟩ rfl hK hP hD hS hA rfl hl.1 (Nat.le_of_ble_eq_true rfl) d_C_follows_15 ⟨Nat.le_of_ble_eq_true rfl, Nat.le_of_ble_eq_true rfl⟩ (fun H locs hP hD hS => ?_)
  have hP : va_P D cls_ [(q, .inr (3, [.ref h, .ref b, .ref g, .ref qa, .int (nI 0), .int (nI vn), .int (nI kn), .int tm, .int (nI tn), .int 0, .int 0])), (qa, .inl (cI, 10, .inl (am))), (g, .inr (0, [.int f0])), (b, .inr (2, [.ref b1, .ref b2, .int (nI (sn ((sT s, sR s, 0, 0)))), .int (sh ((sT s, sR s, 0, 0)))])), (b1, .inl (cI, 10, .inl (sT ((sT s, sR s, 0, 0))))), (b2, .inl (cI, 10, .inl (sR ((sT s, sR s, 0, 0))))), (h, .inr (1, [.ref a1, .ref a2, .ref a3, .ref a4, .int (nI (dz ((gv am an 0 d)))), .int (nI (dl ((gv am an 0 d)))), .int (nI (dO ((gv am an 0 d))))])), (a1, .inl (cI, 1575, .inl (dC ((gv am an 0 d))))), (a2, .inl (cI, 1575, .inl (dF ((gv am an 0 d))))), (a3, .inl (cI, 1575, .inl (dT ((gv am an 0 d))))), (a4, .inl (cI, 3060, .inl (dK ((gv am an 0 d)))))] H := hP
  have hD : va_D A [(q, .inr (3, [.ref h, .ref b, .ref g, .ref qa, .int (nI 0), .int (nI vn), .int (nI kn), .int tm, .int (nI tn), .int 0, .int 0])), (qa, .inl (cI, 10, .inl (am))), (g, .inr (0, [.int f0])), (b, .inr (2, [.ref b1, .ref b2, .int (nI (sn ((sT s, sR s, 0, 0)))), .int (sh ((sT s, sR s, 0, 0)))])), (b1, .inl (cI, 10, .inl (sT ((sT s, sR s, 0, 0))))), (b2, .inl (cI, 10, .inl (sR ((sT s, sR s, 0, 0))))), (h, .inr (1, [.ref a1, .ref a2, .ref a3, .ref a4, .int (nI (dz ((gv am an 0 d)))), .int (nI (dl ((gv am an 0 d)))), .int (nI (dO ((gv am an 0 d))))])), (a1, .inl (cI, 1575, .inl (dC ((gv am an 0 d))))), (a2, .inl (cI, 1575, .inl (dF ((gv am an 0 d))))), (a3, .inl (cI, 1575, .inl (dT ((gv am an 0 d))))), (a4, .inl (cI, 3060, .inl (dK ((gv am an 0 d)))))] := hD
  refine CTv_V (isC := [6, 7, 8, 9, 10]) (isR := [0, 1, 2, 3, 4, 5]) (wr := [(q, .inr (3, [.ref h, .ref b, .ref g, .ref qa, .int (nI 0), .int (nI vn), .int (nI kn), .int tm, .int (nI tn), .int 0, .int 0])), (qa, .inl (cI, 10, .inl (am))), (g, .inr (0, [.int f0])), (b, .inr (2, [.ref b1, .ref b2, .int (nI (sn ((sT s, sR s, 0, 0)))), .int (sh ((sT s, sR s, 0, 0)))])), (b1, .inl (cI, 10, .inl (sT ((sT s, sR s, 0, 0))))), (b2, .inl (cI, 10, .inl (sR ((sT s, sR s, 0, 0)))))]) (wi := [(h, .inr (1, [.ref a1, .ref a2, .ref a3, .ref a4, .int (nI (dz ((gv am an 0 d)))), .int (nI (dl ((gv am an 0 d)))), .int (nI (dO ((gv am an 0 d))))])), (a1, .inl (cI, 1575, .inl (dC ((gv am an 0 d))))), (a2, .inl (cI, 1575, .inl (dF ((gv am an 0 d))))), (a3, .inl (cI, 1575, .inl (dT ((gv am an 0 d))))), (a4, .inl (cI, 3060, .inl (dK ((gv am an 0 d)))))]) (wo := [(h, .inr (1, [.ref a1, .ref a2, .ref a3, .ref a4, .int (nI (dz (dk_give (gv am an 0 d) (cc_of (-x))))), .int (nI (dl (dk_give (gv am an 0 d) (cc_of (-x))))), .int (nI (dO (dk_give (gv am an 0 d) (cc_of (-x)))))])), (a1, .inl (cI, 1575, .inl (dC (dk_give (gv am an 0 d) (cc_of (-x)))))), (a2, .inl (cI, 1575, .inl (dF (dk_give (gv am an 0 d) (cc_of (-x)))))), (a3, .inl (cI, 1575, .inl (dT (dk_give (gv am an 0 d) (cc_of (-x)))))), (a4, .inl (cI, 3060, .inl (dK (dk_give (gv am an 0 d) (cc_of (-x))))))]) (b := h) (As := [.int (cc_of ((-x)))]) (rest := []) ⟨hx, hb, hml, hown, hts⟩ [0] (k_D_give l D cI h a1 a2 a3 a4 (gv am an 0 d) hd1 (cc_of (-x))) (cwV 1 hts v_C_68 rfl rfl rfl (by decide +kernel) ⟨Nat.le_of_ble_eq_true rfl, Nat.le_of_ble_eq_true rfl⟩) ⟨rfl, rfl, rfl, rfl, by decide⟩ rfl hK hP hD hS hA (va_recv (ci := 1) hK hP rfl (q0 := 6) rfl) rfl hl.1 (Nat.le_of_ble_eq_true rfl) d_C_follows_18 ⟨Nat.le_of_ble_eq_true rfl, Nat.le_of_ble_eq_true rfl⟩ (fun H locs hP hD hS => ?_)
  have hP : va_P D cls_ [(q, .inr (3, [.ref h, .ref b, .ref g, .ref qa, .int (nI 0), .int (nI vn), .int (nI kn), .int tm, .int (nI tn), .int 0, .int 0])), (qa, .inl (cI, 10, .inl (am))), (g, .inr (0, [.int f0])), (b, .inr (2, [.ref b1, .ref b2, .int (nI (sn ((sT s, sR s, 0, 0)))), .int (sh ((sT s, sR s, 0, 0)))])), (b1, .inl (cI, 10, .inl (sT ((sT s, sR s, 0, 0))))), (b2, .inl (cI, 10, .inl (sR ((sT s, sR s, 0, 0))))), (h, .inr (1, [.ref a1, .ref a2, .ref a3, .ref a4, .int (nI (dz (dk_give (gv am an 0 d) (cc_of (-x))))), .int (nI (dl (dk_give (gv am an 0 d) (cc_of (-x))))), .int (nI (dO (dk_give (gv am an 0 d) (cc_of (-x)))))])), (a1, .inl (cI, 1575, .inl (dC (dk_give (gv am an 0 d) (cc_of (-x)))))), (a2, .inl (cI, 1575, .inl (dF (dk_give (gv am an 0 d) (cc_of (-x)))))), (a3, .inl (cI, 1575, .inl (dT (dk_give (gv am an 0 d) (cc_of (-x)))))), (a4, .inl (cI, 3060, .inl (dK (dk_give (gv am an 0 d) (cc_of (-x))))))] H := hP
  have hD : va_D A [(q, .inr (3, [.ref h, .ref b, .ref g, .ref qa, .int (nI 0), .int (nI vn), .int (nI kn), .int tm, .int (nI tn), .int 0, .int 0])), (qa, .inl (cI, 10, .inl (am))), (g, .inr (0, [.int f0])), (b, .inr (2, [.ref b1, .ref b2, .int (nI (sn ((sT s, sR s, 0, 0)))), .int (sh ((sT s, sR s, 0, 0)))])), (b1, .inl (cI, 10, .inl (sT ((sT s, sR s, 0, 0))))), (b2, .inl (cI, 10, .inl (sR ((sT s, sR s, 0, 0))))), (h, .inr (1, [.ref a1, .ref a2, .ref a3, .ref a4, .int (nI (dz (dk_give (gv am an 0 d) (cc_of (-x))))), .int (nI (dl (dk_give (gv am an 0 d) (cc_of (-x))))), .int (nI (dO (dk_give (gv am an 0 d) (cc_of (-x)))))])), (a1, .inl (cI, 1575, .inl (dC (dk_give (gv am an 0 d) (cc_of (-x)))))), (a2, .inl (cI, 1575, .inl (dF (dk_give (gv am an 0 d) (cc_of (-x)))))), (a3, .inl (cI, 1575, .inl (dT (dk_give (gv am an 0 d) (cc_of (-x)))))), (a4, .inl (cI, 3060, .inl (dK (dk_give (gv am an 0 d) (cc_of (-x))))))] := hD
  refine lv_aload_n hx hb d_C_follows_21 rfl (lv_at hl 0 rfl) ?_
  refine CTi_V (isC := [0, 1, 2, 3, 4, 5, 6, 7, 8, 9, 10]) (isR := []) (wr := []) (wi := [(q, .inr (3, [.ref h, .ref b, .ref g, .ref qa, .int (nI 0), .int (nI vn), .int (nI kn), .int tm, .int (nI tn), .int 0, .int 0])), (qa, .inl (cI, 10, .inl (am))), (g, .inr (0, [.int f0])), (b, .inr (2, [.ref b1, .ref b2, .int (nI (sn ((sT s, sR s, 0, 0)))), .int (sh ((sT s, sR s, 0, 0)))])), (b1, .inl (cI, 10, .inl (sT ((sT s, sR s, 0, 0))))), (b2, .inl (cI, 10, .inl (sR ((sT s, sR s, 0, 0))))), (h, .inr (1, [.ref a1, .ref a2, .ref a3, .ref a4, .int (nI (dz (dk_give (gv am an 0 d) (cc_of (-x))))), .int (nI (dl (dk_give (gv am an 0 d) (cc_of (-x))))), .int (nI (dO (dk_give (gv am an 0 d) (cc_of (-x)))))])), (a1, .inl (cI, 1575, .inl (dC (dk_give (gv am an 0 d) (cc_of (-x)))))), (a2, .inl (cI, 1575, .inl (dF (dk_give (gv am an 0 d) (cc_of (-x)))))), (a3, .inl (cI, 1575, .inl (dT (dk_give (gv am an 0 d) (cc_of (-x)))))), (a4, .inl (cI, 3060, .inl (dK (dk_give (gv am an 0 d) (cc_of (-x))))))]) (wo := [(q, .inr (3, [.ref h, .ref b, .ref g, .ref qa, .int (nI 0), .int (nI vn), .int (nI kn), .int tm, .int (nI tn), .int 0, .int 0])), (qa, .inl (cI, 10, .inl (am))), (g, .inr (0, [.int f0])), (b, .inr (2, [.ref b1, .ref b2, .int (nI (sn ((sr_find vn 100000 (dk_give (gv am an 0 d) (cc_of (-x))) (sT s, sR s, 0, 0)).2.2))), .int (sh ((sr_find vn 100000 (dk_give (gv am an 0 d) (cc_of (-x))) (sT s, sR s, 0, 0)).2.2))])), (b1, .inl (cI, 10, .inl (sT ((sr_find vn 100000 (dk_give (gv am an 0 d) (cc_of (-x))) (sT s, sR s, 0, 0)).2.2)))), (b2, .inl (cI, 10, .inl (sR ((sr_find vn 100000 (dk_give (gv am an 0 d) (cc_of (-x))) (sT s, sR s, 0, 0)).2.2)))), (h, .inr (1, [.ref a1, .ref a2, .ref a3, .ref a4, .int (nI (dz ((sr_find vn 100000 (dk_give (gv am an 0 d) (cc_of (-x))) (sT s, sR s, 0, 0)).2.1))), .int (nI (dl ((sr_find vn 100000 (dk_give (gv am an 0 d) (cc_of (-x))) (sT s, sR s, 0, 0)).2.1))), .int (nI (dO ((sr_find vn 100000 (dk_give (gv am an 0 d) (cc_of (-x))) (sT s, sR s, 0, 0)).2.1)))])), (a1, .inl (cI, 1575, .inl (dC ((sr_find vn 100000 (dk_give (gv am an 0 d) (cc_of (-x))) (sT s, sR s, 0, 0)).2.1)))), (a2, .inl (cI, 1575, .inl (dF ((sr_find vn 100000 (dk_give (gv am an 0 d) (cc_of (-x))) (sT s, sR s, 0, 0)).2.1)))), (a3, .inl (cI, 1575, .inl (dT ((sr_find vn 100000 (dk_give (gv am an 0 d) (cc_of (-x))) (sT s, sR s, 0, 0)).2.1)))), (a4, .inl (cI, 3060, .inl (dK ((sr_find vn 100000 (dk_give (gv am an 0 d) (cc_of (-x))) (sT s, sR s, 0, 0)).2.1))))]) (b := q) (As := []) (rest := []) ⟨hx, hb, hml, hown, hts⟩ [0] (k_C_nextModel l D cI q qa g b b1 b2 h a1 a2 a3 a4 am 0 vn kn tm tn 0 0 f0 (sT s, sR s, 0, 0) (dk_give (gv am an 0 d) (cc_of (-x))) hvn t 0 g0 hg0 hFI) (cwV 0 hts v_C_79 rfl rfl rfl (by decide +kernel) ⟨Nat.le_of_ble_eq_true rfl, Nat.le_of_ble_eq_true rfl⟩) ⟨rfl, rfl, rfl, rfl, by decide⟩ rfl hK hP hD hS hA (va_recv (ci := 3) hK hP rfl (q0 := 0) rfl) rfl hl.1 (Nat.le_of_ble_eq_true rfl) d_C_follows_22 ⟨Nat.le_of_ble_eq_true rfl, Nat.le_of_ble_eq_true rfl⟩ (fun H locs hP hD hS => ?_)
  have hP : va_P D cls_ [(q, .inr (3, [.ref h, .ref b, .ref g, .ref qa, .int (nI 0), .int (nI vn), .int (nI kn), .int tm, .int (nI tn), .int 0, .int 0])), (qa, .inl (cI, 10, .inl (am))), (g, .inr (0, [.int f0])), (b, .inr (2, [.ref b1, .ref b2, .int (nI (sn ((sr_find vn 100000 (dk_give (gv am an 0 d) (cc_of (-x))) (sT s, sR s, 0, 0)).2.2))), .int (sh ((sr_find vn 100000 (dk_give (gv am an 0 d) (cc_of (-x))) (sT s, sR s, 0, 0)).2.2))])), (b1, .inl (cI, 10, .inl (sT ((sr_find vn 100000 (dk_give (gv am an 0 d) (cc_of (-x))) (sT s, sR s, 0, 0)).2.2)))), (b2, .inl (cI, 10, .inl (sR ((sr_find vn 100000 (dk_give (gv am an 0 d) (cc_of (-x))) (sT s, sR s, 0, 0)).2.2)))), (h, .inr (1, [.ref a1, .ref a2, .ref a3, .ref a4, .int (nI (dz ((sr_find vn 100000 (dk_give (gv am an 0 d) (cc_of (-x))) (sT s, sR s, 0, 0)).2.1))), .int (nI (dl ((sr_find vn 100000 (dk_give (gv am an 0 d) (cc_of (-x))) (sT s, sR s, 0, 0)).2.1))), .int (nI (dO ((sr_find vn 100000 (dk_give (gv am an 0 d) (cc_of (-x))) (sT s, sR s, 0, 0)).2.1)))])), (a1, .inl (cI, 1575, .inl (dC ((sr_find vn 100000 (dk_give (gv am an 0 d) (cc_of (-x))) (sT s, sR s, 0, 0)).2.1)))), (a2, .inl (cI, 1575, .inl (dF ((sr_find vn 100000 (dk_give (gv am an 0 d) (cc_of (-x))) (sT s, sR s, 0, 0)).2.1)))), (a3, .inl (cI, 1575, .inl (dT ((sr_find vn 100000 (dk_give (gv am an 0 d) (cc_of (-x))) (sT s, sR s, 0, 0)).2.1)))), (a4, .inl (cI, 3060, .inl (dK ((sr_find vn 100000 (dk_give (gv am an 0 d) (cc_of (-x))) (sT s, sR s, 0, 0)).2.1))))] H := hP
  have hD : va_D A [(q, .inr (3, [.ref h, .ref b, .ref g, .ref qa, .int (nI 0), .int (nI vn), .int (nI kn), .int tm, .int (nI tn), .int 0, .int 0])), (qa, .inl (cI, 10, .inl (am))), (g, .inr (0, [.int f0])), (b, .inr (2, [.ref b1, .ref b2, .int (nI (sn ((sr_find vn 100000 (dk_give (gv am an 0 d) (cc_of (-x))) (sT s, sR s, 0, 0)).2.2))), .int (sh ((sr_find vn 100000 (dk_give (gv am an 0 d) (cc_of (-x))) (sT s, sR s, 0, 0)).2.2))])), (b1, .inl (cI, 10, .inl (sT ((sr_find vn 100000 (dk_give (gv am an 0 d) (cc_of (-x))) (sT s, sR s, 0, 0)).2.2)))), (b2, .inl (cI, 10, .inl (sR ((sr_find vn 100000 (dk_give (gv am an 0 d) (cc_of (-x))) (sT s, sR s, 0, 0)).2.2)))), (h, .inr (1, [.ref a1, .ref a2, .ref a3, .ref a4, .int (nI (dz ((sr_find vn 100000 (dk_give (gv am an 0 d) (cc_of (-x))) (sT s, sR s, 0, 0)).2.1))), .int (nI (dl ((sr_find vn 100000 (dk_give (gv am an 0 d) (cc_of (-x))) (sT s, sR s, 0, 0)).2.1))), .int (nI (dO ((sr_find vn 100000 (dk_give (gv am an 0 d) (cc_of (-x))) (sT s, sR s, 0, 0)).2.1)))])), (a1, .inl (cI, 1575, .inl (dC ((sr_find vn 100000 (dk_give (gv am an 0 d) (cc_of (-x))) (sT s, sR s, 0, 0)).2.1)))), (a2, .inl (cI, 1575, .inl (dF ((sr_find vn 100000 (dk_give (gv am an 0 d) (cc_of (-x))) (sT s, sR s, 0, 0)).2.1)))), (a3, .inl (cI, 1575, .inl (dT ((sr_find vn 100000 (dk_give (gv am an 0 d) (cc_of (-x))) (sT s, sR s, 0, 0)).2.1)))), (a4, .inl (cI, 3060, .inl (dK ((sr_find vn 100000 (dk_give (gv am an 0 d) (cc_of (-x))) (sT s, sR s, 0, 0)).2.1))))] := hD
  refine lv_istore_n (lv' := [(2, .int (if (sr_find vn 100000 (dk_give (gv am an 0 d) (cc_of (-x))) (sT s, sR s, 0, 0)).1 = true then 1 else 0)), (0, .ref q), (1, .int x)]) hx hb d_C_follows_25 rfl hl (by decide) rfl (fun ls hl => ?_)
  refine lv_aload_n hx hb d_C_follows_26 rfl (lv_at hl 1 rfl) ?_
  refine CTv_V (isC := [0, 1, 2, 3, 4, 5, 6, 7, 8, 9, 10]) (isR := []) (wr := []) (wi := [(q, .inr (3, [.ref h, .ref b, .ref g, .ref qa, .int (nI 0), .int (nI vn), .int (nI kn), .int tm, .int (nI tn), .int 0, .int 0])), (qa, .inl (cI, 10, .inl (am))), (g, .inr (0, [.int f0])), (b, .inr (2, [.ref b1, .ref b2, .int (nI (sn ((sr_find vn 100000 (dk_give (gv am an 0 d) (cc_of (-x))) (sT s, sR s, 0, 0)).2.2))), .int (sh ((sr_find vn 100000 (dk_give (gv am an 0 d) (cc_of (-x))) (sT s, sR s, 0, 0)).2.2))])), (b1, .inl (cI, 10, .inl (sT ((sr_find vn 100000 (dk_give (gv am an 0 d) (cc_of (-x))) (sT s, sR s, 0, 0)).2.2)))), (b2, .inl (cI, 10, .inl (sR ((sr_find vn 100000 (dk_give (gv am an 0 d) (cc_of (-x))) (sT s, sR s, 0, 0)).2.2)))), (h, .inr (1, [.ref a1, .ref a2, .ref a3, .ref a4, .int (nI (dz ((sr_find vn 100000 (dk_give (gv am an 0 d) (cc_of (-x))) (sT s, sR s, 0, 0)).2.1))), .int (nI (dl ((sr_find vn 100000 (dk_give (gv am an 0 d) (cc_of (-x))) (sT s, sR s, 0, 0)).2.1))), .int (nI (dO ((sr_find vn 100000 (dk_give (gv am an 0 d) (cc_of (-x))) (sT s, sR s, 0, 0)).2.1)))])), (a1, .inl (cI, 1575, .inl (dC ((sr_find vn 100000 (dk_give (gv am an 0 d) (cc_of (-x))) (sT s, sR s, 0, 0)).2.1)))), (a2, .inl (cI, 1575, .inl (dF ((sr_find vn 100000 (dk_give (gv am an 0 d) (cc_of (-x))) (sT s, sR s, 0, 0)).2.1)))), (a3, .inl (cI, 1575, .inl (dT ((sr_find vn 100000 (dk_give (gv am an 0 d) (cc_of (-x))) (sT s, sR s, 0, 0)).2.1)))), (a4, .inl (cI, 3060, .inl (dK ((sr_find vn 100000 (dk_give (gv am an 0 d) (cc_of (-x))) (sT s, sR s, 0, 0)).2.1))))]) (wo := [(q, .inr (3, [.ref h, .ref b, .ref g, .ref qa, .int (nI 0), .int (nI vn), .int (nI kn), .int tm, .int (nI tn), .int 0, .int 0])), (qa, .inl (cI, 10, .inl (am))), (g, .inr (0, [.int f0])), (b, .inr (2, [.ref b1, .ref b2, .int (nI (sn ((sr_find vn 100000 (dk_give (gv am an 0 d) (cc_of (-x))) (sT s, sR s, 0, 0)).2.2))), .int (sh ((sr_find vn 100000 (dk_give (gv am an 0 d) (cc_of (-x))) (sT s, sR s, 0, 0)).2.2))])), (b1, .inl (cI, 10, .inl (sT ((sr_find vn 100000 (dk_give (gv am an 0 d) (cc_of (-x))) (sT s, sR s, 0, 0)).2.2)))), (b2, .inl (cI, 10, .inl (sR ((sr_find vn 100000 (dk_give (gv am an 0 d) (cc_of (-x))) (sT s, sR s, 0, 0)).2.2)))), (h, .inr (1, [.ref a1, .ref a2, .ref a3, .ref a4, .int (nI (dz ((dk_keep (sr_find vn 100000 (dk_give (gv am an 0 d) (cc_of (-x))) (sT s, sR s, 0, 0)).2.1 kn)))), .int (nI (dl ((dk_keep (sr_find vn 100000 (dk_give (gv am an 0 d) (cc_of (-x))) (sT s, sR s, 0, 0)).2.1 kn)))), .int (nI (dO ((dk_keep (sr_find vn 100000 (dk_give (gv am an 0 d) (cc_of (-x))) (sT s, sR s, 0, 0)).2.1 kn))))])), (a1, .inl (cI, 1575, .inl (dC ((dk_keep (sr_find vn 100000 (dk_give (gv am an 0 d) (cc_of (-x))) (sT s, sR s, 0, 0)).2.1 kn))))), (a2, .inl (cI, 1575, .inl (dF ((dk_keep (sr_find vn 100000 (dk_give (gv am an 0 d) (cc_of (-x))) (sT s, sR s, 0, 0)).2.1 kn))))), (a3, .inl (cI, 1575, .inl (dT ((dk_keep (sr_find vn 100000 (dk_give (gv am an 0 d) (cc_of (-x))) (sT s, sR s, 0, 0)).2.1 kn))))), (a4, .inl (cI, 3060, .inl (dK ((dk_keep (sr_find vn 100000 (dk_give (gv am an 0 d) (cc_of (-x))) (sT s, sR s, 0, 0)).2.1 kn)))))]) (b := q) (As := []) (rest := []) ⟨hx, hb, hml, hown, hts⟩ [0] (k_C_endQuestion l D cI q qa g b b1 b2 h a1 a2 a3 a4 am 0 vn kn tm tn 0 0 f0 (sr_find vn 100000 (dk_give (gv am an 0 d) (cc_of (-x))) (sT s, sR s, 0, 0)).2.2 (sr_find vn 100000 (dk_give (gv am an 0 d) (cc_of (-x))) (sT s, sR s, 0, 0)).2.1 hd2 hkn) (cwV 0 hts v_C_94 rfl rfl rfl (by decide +kernel) ⟨Nat.le_of_ble_eq_true rfl, Nat.le_of_ble_eq_true rfl⟩) ⟨rfl, rfl, rfl, rfl, by decide⟩ rfl hK hP hD hS hA (va_recv (ci := 3) hK hP rfl (q0 := 0) rfl) rfl hl.1 (Nat.le_of_ble_eq_true rfl) d_C_follows_27 ⟨Nat.le_of_ble_eq_true rfl, Nat.le_of_ble_eq_true rfl⟩ (fun H locs hP hD hS => ?_)
  have hP : va_P D cls_ [(q, .inr (3, [.ref h, .ref b, .ref g, .ref qa, .int (nI 0), .int (nI vn), .int (nI kn), .int tm, .int (nI tn), .int 0, .int 0])), (qa, .inl (cI, 10, .inl (am))), (g, .inr (0, [.int f0])), (b, .inr (2, [.ref b1, .ref b2, .int (nI (sn ((sr_find vn 100000 (dk_give (gv am an 0 d) (cc_of (-x))) (sT s, sR s, 0, 0)).2.2))), .int (sh ((sr_find vn 100000 (dk_give (gv am an 0 d) (cc_of (-x))) (sT s, sR s, 0, 0)).2.2))])), (b1, .inl (cI, 10, .inl (sT ((sr_find vn 100000 (dk_give (gv am an 0 d) (cc_of (-x))) (sT s, sR s, 0, 0)).2.2)))), (b2, .inl (cI, 10, .inl (sR ((sr_find vn 100000 (dk_give (gv am an 0 d) (cc_of (-x))) (sT s, sR s, 0, 0)).2.2)))), (h, .inr (1, [.ref a1, .ref a2, .ref a3, .ref a4, .int (nI (dz ((dk_keep (sr_find vn 100000 (dk_give (gv am an 0 d) (cc_of (-x))) (sT s, sR s, 0, 0)).2.1 kn)))), .int (nI (dl ((dk_keep (sr_find vn 100000 (dk_give (gv am an 0 d) (cc_of (-x))) (sT s, sR s, 0, 0)).2.1 kn)))), .int (nI (dO ((dk_keep (sr_find vn 100000 (dk_give (gv am an 0 d) (cc_of (-x))) (sT s, sR s, 0, 0)).2.1 kn))))])), (a1, .inl (cI, 1575, .inl (dC ((dk_keep (sr_find vn 100000 (dk_give (gv am an 0 d) (cc_of (-x))) (sT s, sR s, 0, 0)).2.1 kn))))), (a2, .inl (cI, 1575, .inl (dF ((dk_keep (sr_find vn 100000 (dk_give (gv am an 0 d) (cc_of (-x))) (sT s, sR s, 0, 0)).2.1 kn))))), (a3, .inl (cI, 1575, .inl (dT ((dk_keep (sr_find vn 100000 (dk_give (gv am an 0 d) (cc_of (-x))) (sT s, sR s, 0, 0)).2.1 kn))))), (a4, .inl (cI, 3060, .inl (dK ((dk_keep (sr_find vn 100000 (dk_give (gv am an 0 d) (cc_of (-x))) (sT s, sR s, 0, 0)).2.1 kn)))))] H := hP
  have hD : va_D A [(q, .inr (3, [.ref h, .ref b, .ref g, .ref qa, .int (nI 0), .int (nI vn), .int (nI kn), .int tm, .int (nI tn), .int 0, .int 0])), (qa, .inl (cI, 10, .inl (am))), (g, .inr (0, [.int f0])), (b, .inr (2, [.ref b1, .ref b2, .int (nI (sn ((sr_find vn 100000 (dk_give (gv am an 0 d) (cc_of (-x))) (sT s, sR s, 0, 0)).2.2))), .int (sh ((sr_find vn 100000 (dk_give (gv am an 0 d) (cc_of (-x))) (sT s, sR s, 0, 0)).2.2))])), (b1, .inl (cI, 10, .inl (sT ((sr_find vn 100000 (dk_give (gv am an 0 d) (cc_of (-x))) (sT s, sR s, 0, 0)).2.2)))), (b2, .inl (cI, 10, .inl (sR ((sr_find vn 100000 (dk_give (gv am an 0 d) (cc_of (-x))) (sT s, sR s, 0, 0)).2.2)))), (h, .inr (1, [.ref a1, .ref a2, .ref a3, .ref a4, .int (nI (dz ((dk_keep (sr_find vn 100000 (dk_give (gv am an 0 d) (cc_of (-x))) (sT s, sR s, 0, 0)).2.1 kn)))), .int (nI (dl ((dk_keep (sr_find vn 100000 (dk_give (gv am an 0 d) (cc_of (-x))) (sT s, sR s, 0, 0)).2.1 kn)))), .int (nI (dO ((dk_keep (sr_find vn 100000 (dk_give (gv am an 0 d) (cc_of (-x))) (sT s, sR s, 0, 0)).2.1 kn))))])), (a1, .inl (cI, 1575, .inl (dC ((dk_keep (sr_find vn 100000 (dk_give (gv am an 0 d) (cc_of (-x))) (sT s, sR s, 0, 0)).2.1 kn))))), (a2, .inl (cI, 1575, .inl (dF ((dk_keep (sr_find vn 100000 (dk_give (gv am an 0 d) (cc_of (-x))) (sT s, sR s, 0, 0)).2.1 kn))))), (a3, .inl (cI, 1575, .inl (dT ((dk_keep (sr_find vn 100000 (dk_give (gv am an 0 d) (cc_of (-x))) (sT s, sR s, 0, 0)).2.1 kn))))), (a4, .inl (cI, 3060, .inl (dK ((dk_keep (sr_find vn 100000 (dk_give (gv am an 0 d) (cc_of (-x))) (sT s, sR s, 0, 0)).2.1 kn)))))] := hD
  refine lv_iload_n hx hb d_C_follows_30 rfl (lv_at hl 0 rfl) ?_
  refine lv_if_ne (tgt := 38) hx hb d_C_follows_31 rfl (fun hc31 => ?_) (fun hc31 => ?_)
  · refine lv_iconst (v := 0) hx hb d_C_follows_38 (by decide) ?_
    exact fin _ _ _ _ _ hP hD hS ((if_pos (it1 hc31)).symm) d_C_follows_39
  · refine lv_iconst (v := 1) hx hb d_C_follows_34 (by decide) ?_
    refine lv_goto (tgt := 39) hx hb d_C_follows_35 rfl ?_
    exact fin _ _ _ _ _ hP hD hS ((if_neg (it0 hc31)).symm) d_C_follows_39
set_option maxHeartbeats 4000000 in
set_option maxRecDepth 100000 in
theorem k_C_value (l : Launch) (D : va_G) (cI : ClassId) (q qa g b b1 b2 h a1 a2 a3 a4 : Nat) (am : Nat → Int32) (an vn kn : Nat) (tm : Int32) (tn : Nat) (hm mo f0 : Int32) (s : SS) (d : DS) (x : Int32) (hx1 : ¬ x < 1) (hx2 : x ≤ nI vn) (hm9 : ¬ hm = 0) : KTi l y_C_value c_C_value 2 .boolean { frames := 8, cells := 0, slots := 0, locals := 120 } D [(cI, .int)] [.ref q, .int x] (wC cI q qa g b b1 b2 h a1 a2 a3 a4 am an vn kn tm tn hm mo f0 s d) (if mo &&& cc_of x = 0 then 0 else 1) (wC cI q qa g b b1 b2 h a1 a2 a3 a4 am an vn kn tm tn hm mo f0 s d) := by
  refine KTi_of (own := R_C) (by decide +kernel) rfl (Nat.le_of_ble_eq_true rfl) (nar_if2 _) ?_
  intro p e st m below meth c A ls Q hx hb hml hts hown hK hP hD hS hA hl fin
  refine lv_iload_n hx hb d_C_value_0 rfl (lv_at hl 1 rfl) ?_
  refine lv_iconst (v := 1) hx hb d_C_value_1 (by decide) ?_
  refine lv_icmp_lt (tgt := 13) hx hb d_C_value_2 rfl (fun hc2 => absurd hc2 hx1) (fun hc2 => ?_)
  refine lv_iload_n hx hb d_C_value_5 rfl (lv_at hl 1 rfl) ?_
  refine lv_aload_n hx hb d_C_value_6 rfl (lv_at hl 0 rfl) ?_
  refine va_get (D := D) (ci := 3) (v := .int (nI vn)) (C := R_C) (T := T_C) (N := 11) hx hb hts u_C hown hK hP 0 rfl rfl 5 (by decide) (hts _ f_C_34) (fun _ h9 => h9) rfl d_C_value_7 ?_
  refine lv_icmp_le (tgt := 23) hx hb d_C_value_10 rfl (fun hc10 => ?_) (fun hc10 => absurd hx2 hc10)
  refine lv_aload_n hx hb d_C_value_23 rfl (lv_at hl 0 rfl) ?_
  refine va_get (D := D) (ci := 3) (v := .int hm) (C := R_C) (T := T_C) (N := 11) hx hb hts u_C hown hK hP 0 rfl rfl 9 (by decide) (hts _ f_C_83) (fun _ h9 => h9) rfl d_C_value_24 ?_
  refine lv_if_ne (tgt := 40) hx hb d_C_value_27 rfl (fun hc27 => ?_) (fun hc27 => absurd hc27 hm9)
  refine lv_aload_n hx hb d_C_value_40 rfl (lv_at hl 0 rfl) ?_
  refine va_get (D := D) (ci := 3) (v := .int mo) (C := R_C) (T := T_C) (N := 11) hx hb hts u_C hown hK hP 0 rfl rfl 10 (by decide) (hts _ f_C_91) (fun _ h9 => h9) rfl d_C_value_41 ?_
  refine lv_iload_n hx hb d_C_value_44 rfl (lv_at hl 1 rfl) ?_
  refine CTi_S (isC := []) (isR := [0, 1, 2, 3, 4, 5, 6, 7, 8, 9, 10]) (wr := [(q, .inr (3, [.ref h, .ref b, .ref g, .ref qa, .int (nI an), .int (nI vn), .int (nI kn), .int tm, .int (nI tn), .int hm, .int mo])), (qa, .inl (cI, 10, .inl (am))), (g, .inr (0, [.int f0])), (b, .inr (2, [.ref b1, .ref b2, .int (nI (sn s)), .int (sh s)])), (b1, .inl (cI, 10, .inl (sT s))), (b2, .inl (cI, 10, .inl (sR s))), (h, .inr (1, [.ref a1, .ref a2, .ref a3, .ref a4, .int (nI (dz d)), .int (nI (dl d)), .int (nI (dO d))])), (a1, .inl (cI, 1575, .inl (dC d))), (a2, .inl (cI, 1575, .inl (dF d))), (a3, .inl (cI, 1575, .inl (dT d))), (a4, .inl (cI, 3060, .inl (dK d)))]) (wi := []) (wo := []) (As := [.int x]) (rest := [.int mo]) ⟨hx, hb, hml, hown, hts⟩ [] (k_L_of l D (x)) (va_cwS 1 hts v_C_57 rfl rfl rfl (by decide +kernel) ⟨Nat.le_of_ble_eq_true rfl, Nat.le_of_ble_eq_true rfl⟩) ⟨rfl, rfl, rfl, rfl, by decide⟩ rfl hK hP hD hS hA rfl hl.1 (Nat.le_of_ble_eq_true rfl) d_C_value_45 ⟨Nat.le_of_ble_eq_true rfl, Nat.le_of_ble_eq_true rfl⟩ (fun H locs hP hD hS => ?_)
  have hP : va_P D cls_ [(q, .inr (3, [.ref h, .ref b, .ref g, .ref qa, .int (nI an), .int (nI vn), .int (nI kn), .int tm, .int (nI tn), .int hm, .int mo])), (qa, .inl (cI, 10, .inl (am))), (g, .inr (0, [.int f0])), (b, .inr (2, [.ref b1, .ref b2, .int (nI (sn s)), .int (sh s)])), (b1, .inl (cI, 10, .inl (sT s))), (b2, .inl (cI, 10, .inl (sR s))), (h, .inr (1, [.ref a1, .ref a2, .ref a3, .ref a4, .int (nI (dz d)), .int (nI (dl d)), .int (nI (dO d))])), (a1, .inl (cI, 1575, .inl (dC d))), (a2, .inl (cI, 1575, .inl (dF d))), (a3, .inl (cI, 1575, .inl (dT d))), (a4, .inl (cI, 3060, .inl (dK d)))] H := hP
  have hD : va_D A [(q, .inr (3, [.ref h, .ref b, .ref g, .ref qa, .int (nI an), .int (nI vn), .int (nI kn), .int tm, .int (nI tn), .int hm, .int mo])), (qa, .inl (cI, 10, .inl (am))), (g, .inr (0, [.int f0])), (b, .inr (2, [.ref b1, .ref b2, .int (nI (sn s)), .int (sh s)])), (b1, .inl (cI, 10, .inl (sT s))), (b2, .inl (cI, 10, .inl (sR s))), (h, .inr (1, [.ref a1, .ref a2, .ref a3, .ref a4, .int (nI (dz d)), .int (nI (dl d)), .int (nI (dO d))])), (a1, .inl (cI, 1575, .inl (dC d))), (a2, .inl (cI, 1575, .inl (dF d))), (a3, .inl (cI, 1575, .inl (dT d))), (a4, .inl (cI, 3060, .inl (dK d)))] := hD
  refine lv_iand hx hb d_C_value_48 ?_
  refine lv_if_eq (tgt := 56) hx hb d_C_value_49 rfl (fun hc49 => ?_) (fun hc49 => ?_)
  · refine lv_iconst (v := 0) hx hb d_C_value_56 (by decide) ?_
    exact fin _ _ _ _ _ hP hD hS ((if_pos hc49).symm) d_C_value_57
  · refine lv_iconst (v := 1) hx hb d_C_value_52 (by decide) ?_
    refine lv_goto (tgt := 57) hx hb d_C_value_53 rfl ?_
    exact fin _ _ _ _ _ hP hD hS ((if_neg hc49).symm) d_C_value_57
end
section
/-! Part 37: exceptions: a method that throws a new object of a class X (stack traces off), a call of it, and out of the caller -/
/-- what is thrown, and that nothing else changed -/
def XC (X : String) (st t : State) (a : Nat) : Prop := st.heap.size ≤ a ∧ st.heap.size ≤ t.heap.size ∧ (∀ q : Nat, q < st.heap.size → t.heap[q]? = st.heap[q]?) ∧ ∃ cell : Cell, t.heap[a]? = some cell ∧ st.vm.findClass X = some cell.cls ∧ cell.vm = .none
def XT (l : Launch) (y : MethodName) (ws : List Cond) (rm : Room) (Pc : Array Value → State → Prop) (X : String) : Prop :=
  MetFree l y (headSpec ws rm) Pc (fun _ _ _ _ _ => True) (fun _ st o t => ∃ a : Nat, o = .threw a ∧ st.WarmedH t.vm ∧ st.sameButNew ({ t with vm := st.vm } : State) [] 1 6 ∧ XC X st t a)
def MQX (below : List Frame) (X : String) (s : State) : State → Prop := fun t => ∃ a : Nat, t.status = .running ∧ Ended t below (.threw a) ∧ s.WarmedH t.vm ∧ s.sameButNew ({ t with vm := s.vm } : State) [] 1 6 ∧ XC X s t a
theorem XT_of {l : Launch} {y : MethodName} {ws ws' : List Cond} {rm : Room} {Pc : Array Value → State → Prop} {X : String} {cc : ByteArray} {maxL : Nat} {ret : Option FieldType}
    (hy : plainName y.cls = true) (hw : ws = Cond.code y cc maxL ret :: ws')
    (body : ∀ p e s m args below meth c s₁, BodyLoose p l y (headSpec ws rm) cc maxL ret e s m args below meth c s₁ → c.maxLocals = maxL → Pc args s →
      W p l e (headSpec ws rm).room s m args below meth c s.heap [] 0 0 (MQX below X s) (entryFrame m args maxL)) : XT l y ws rm Pc X := by
  refine MetFree.of_bodyS (code := cc) (maxLocals := maxL) (ret := ret) hy ?_ ?_
  · intro args s m h hn
    obtain ⟨meth, c, h1, h2, h3, h4, h5, h6, -, -⟩ := Cond.code_spec hn (atoms_spec (ws := ws) h _ (by rw [hw]; exact List.mem_cons_self))
    exact ⟨meth, c, h1, h2, h3, h4, h5, h6⟩
  · intro p e s m args below meth c s₁ B hml hP _
    have hh0 : s₁.heap = s.heap := by rw [B.state]; rfl
    obtain ⟨t, a1, a, b1, b2, b3⟩ := body p e s m args below meth c s₁ B hml hP s₁ hh0 (Stand.of_body B)
    exact ⟨t, .threw a, a1, b1, b2, a, rfl, b3⟩
section XCall
variable {p : Program} {l : Launch} {e : Env} {R : Room} {s : State} {m : MethodId} {args : Array Value} {below : List Frame} {meth : Method} {c : Code} {T : State} {locs : List Loc} {cells slots : Nat}
/-- invokevirtual of a method that throws: the note lies over the caller's frame -/
theorem callVX (X₀ : Stand p l e R s m args below meth c T locs cells slots) (hexec : p.tables.exec = Jvm.exec) {own C : String} {index : Nat} {y : MethodName} {bytes : ByteArray} {maxL : Nat} {ret : Option FieldType}
    (hown : s.vm.findClass own = some m.cls) (hlink : (Cond.methodLink own index y).before args s = true) (hinst : (Cond.instanceMethod y).before args s = true) (hsel : (Cond.selects C y y).before args s = true)
    (hcode : (Cond.code y bytes maxL ret).before args s = true) (hy : y.cls ≠ "java/lang/invoke/MethodHandle" ∧ y.cls ≠ "java/lang/invoke/VarHandle")
    {ws : List Cond} {rm : Room} {Pc : Array Value → State → Prop} {X : String} (hM : XT l y ws rm Pc X) (hblind : FrameBlind Pc)
    (hframes : rm.frames + 1 ≤ R.frames) (hlocals : 8 + (maxL + 11) + rm.locals ≤ R.locals) (hws : ∀ w ∈ ws, ∀ (a' : Array Value) (U : State), s.WarmedH U.vm → w.before a' U = true)
    (hcw : Cond.code y bytes maxL ret ∈ ws) (hini : ∀ (a' : Array Value) (U : State), s.WarmedH U.vm → (Cond.initialized y.cls).before a' U = true) (hrc : cells + rm.cells ≤ R.cells) (hrs : slots + rm.slots ≤ R.slots)
    {b : Addr} {cellB : Cell} (hcell : T.heap[b]? = some cellB) (hobj : cellB.vm.isStatics = false) (hcls : s.vm.findClass C = some cellB.cls)
    {g : JFrame} (hg : g.method = m) (hsize : g.locals.size = c.maxLocals) {argsL rest : List Value} (hlen : ∀ sig, parseMethodDescriptor y.desc = some sig → argsL.length = sig.parameters.length)
    (hstack : g.stack = argsL.reverse ++ .ref b :: rest) (hW : 2 * g.monitorRoom + (rest.map fun v => v.category).sum ≤ 8) (hdg : decode c.code g.pc = .ok (.invokevirtual index, 3))
    (hpre : ∀ vm₁, s.WarmedH vm₁ → Pc (Value.ref b :: argsL).toArray (T.setVm vm₁)) :
    ∃ (a : Nat) (T' : State), Stand p l e R s m args below meth c T' locs (cells + 1) (slots + 6) ∧
      (T.heap.size ≤ a ∧ T.heap.size ≤ T'.heap.size ∧ (∀ q : Nat, q < T.heap.size → T'.heap[q]? = T.heap[q]?) ∧ ∃ cell : Cell, T'.heap[a]? = some cell ∧ s.vm.findClass X = some cell.cls ∧ cell.vm = .none) ∧
      ∀ target, Steps p.tables e below ((T'.setTop { g with stack := rest }).pushFrame (.throwing a)) target → Steps p.tables e below (T.setTop g) target := by
  obtain ⟨mk, methM, hnamed, hmethM, hstM, habM⟩ := Cond.instanceMethod_spec hinst
  obtain ⟨methM', cM, hmethM', -, -, -, -, -, -, hsigM⟩ := Cond.code_spec hnamed hcode
  cases hmethM.symm.trans hmethM'
  obtain ⟨c2, r2, m2, q1, q2, q3, q4, kP, hkP, hkPi⟩ := Cond.selects_spec hsel
  cases hcls.symm.trans q1
  cases (State.methodFound?_of_named hnamed hy).symm.trans q2
  cases hnamed.symm.trans q3
  have hselP : selectMethod e.platform s.vm cellB.cls mk = .method mk := by rw [Launch.admits_selectMethod X₀.admits]; exact q4
  obtain ⟨vm₁, X₁, hstep₁⟩ := X₀.invokevirtual hexec hown hlink hnamed hmethM hstM hkP hkPi hy (a := b) (cell := cellB) hcell
    (fun z h => by rw [h] at hobj; cases hobj) hselP hmethM habM hkP hkPi (g := g) hg (argsL := argsL) (rest := rest) (hlen _ hsigM) hstack hdg
  have hn : (T.setVm vm₁).methodNamed? y = some mk := X₁.named hnamed
  have h1 : (allAtoms ws).before (Value.ref b :: argsL).toArray (T.setVm vm₁) = true := atoms_intro fun w hw => hws w hw _ _ X₁.warmed
  have h2 := hws _ hcw (Value.ref b :: argsL).toArray (T.setVm vm₁) X₁.warmed
  have h3 := hini (Value.ref b :: argsL).toArray (T.setVm vm₁) X₁.warmed
  obtain ⟨methY, cY, hmY, hcY, -, hlY, -, -, -, -⟩ := Cond.code_spec hn h2
  obtain ⟨kY, hkY, -⟩ := className_of_methodNamed hn
  have hinitY : kY.init = .initialized := Cond.initialized_spec (findClass_of_methodNamed hn) hkY h3
  generalize hU : T.setVm vm₁ = U at *
  have hUh : U.heap = T.heap := by rw [← hU]; rfl
  have h : At U ({ g with stack := rest } : JFrame).method c below := by rw [show ({ g with stack := rest } : JFrame).method = m from hg]; exact X₁.here
  have happ : (headSpec ws rm).appliesLoose y e.platform (U.calling { g with stack := rest } mk (Value.ref b :: argsL).toArray) = true :=
    Spec.appliesLoose_calling (g := { g with stack := rest }) h hdg hn hkY hinitY
      (X₁.room_calling (g := { g with stack := rest }) (R' := (headSpec ws rm).room) hsize hmY hcY hframes (by rw [hlY]; exact Nat.le_trans (Nat.add_le_add_right (Nat.add_le_add_right hW _) _) hlocals) hrc hrs) h1
  obtain ⟨mid, hmid⟩ := h.above
  have hfr : (U.setTop { g with stack := rest }).frames = (.java { g with stack := rest } :: mid) ++ below := by rw [State.frames_setTop' _ h.top, hmid]; rfl
  have hPU : Pc (Value.ref b :: argsL).toArray U := by rw [← hU]; exact hpre vm₁ (by have := X₁.warmed; rw [← hU] at this; exact this)
  obtain ⟨o, s₂, hsteps, -, hend, hq⟩ := Steps.callFree hM p X₁.admits X₁.cas X₁.clock (acts := []) hfr happ (hblind _ _ _ _ hPU) trivial
  obtain ⟨a, rfl, hW₂, hsm, hx1, hx2, hx3, cell, hx4, hx5, hx6⟩ := hq
  obtain ⟨e2, k2, k3, k4, k5, k6⟩ := hsm
  have e3 : s₂ = ({ (U.calling { g with stack := rest } mk (Value.ref b :: argsL).toArray).setFrames s₂.frames with heap := s₂.heap, slotsUsed := s₂.slotsUsed } : State).setVm s₂.vm := by
    have h9 : s₂ = ({ s₂ with vm := (U.calling { g with stack := rest } mk (Value.ref b :: argsL).toArray).vm } : State).setVm s₂.vm := rfl
    have e2' : ({ s₂ with vm := (U.calling { g with stack := rest } mk (Value.ref b :: argsL).toArray).vm } : State) = { (U.calling { g with stack := rest } mk (Value.ref b :: argsL).toArray).setFrames s₂.frames with heap := s₂.heap, slotsUsed := s₂.slotsUsed } := e2
    rw [e2'] at h9
    exact h9
  have hf₂ : s₂.frames = .throwing a :: (U.setTop { g with stack := rest }).frames := hend
  rw [State.frames_setTop' _ h.top] at hf₂
  have hW' : U.WarmedH s₂.vm := hW₂
  obtain ⟨g₀, hg0⟩ := Option.isSome_iff_exists.mp h.top
  obtain ⟨r, hr⟩ := State.topJava?_eq_some.mp hg0
  have hs₂ : s₂ = ((({ U with heap := s₂.heap, slotsUsed := s₂.slotsUsed } : State).setVm s₂.vm).setTop { g with stack := rest }).pushFrame (.throwing a) := by
    have hr' : (({ U with heap := s₂.heap, slotsUsed := s₂.slotsUsed } : State).setVm s₂.vm).frames = .java g₀ :: r := hr
    refine e3.trans ?_
    rw [hf₂, State.calling_eq h.top, State.setFrames_setFrames, State.pushFrame, State.frames_setTop _ hr', State.setTop_of_frames _ hr', State.setFrames_setFrames, hr]
    rfl
  have hsame : U.sameButNew ({ U with heap := s₂.heap, slotsUsed := s₂.slotsUsed } : State) [] 1 6 := by
    refine ⟨?_, k2, k3, k4, k5, k6⟩
    obtain ⟨t, ht, -⟩ := State.frames_cons hr
    show ({ U with heap := s₂.heap, slotsUsed := s₂.slotsUsed } : State) = { U.setFrames U.frames with heap := s₂.heap, slotsUsed := s₂.slotsUsed }
    rw [State.setFrames_self ht]
  have hst : Stand p l e R s m args below meth c (({ U with heap := s₂.heap, slotsUsed := s₂.slotsUsed } : State).setVm s₂.vm) (locs ++ []) (cells + 1) (slots + 6) :=
    ⟨X₁.admits, X₁.cas, X₁.clock, X₁.frames, X₁.room, X₁.hears, X₁.method, X₁.code, (X₁.here.setHeapUsed s₂.heap s₂.slotsUsed).setVm hW'.alike, X₁.tail, State.WarmedH.trans X₁.warmed hW', X₁.limits, X₁.bytes, X₁.same.trans (hsame.setVm s.vm)⟩
  rw [List.append_nil] at hst
  refine ⟨a, _, hst, ⟨?_, ?_, ?_, cell, hx4, ?_, hx6⟩, fun target ht => hstep₁ _ fun acts => ?_⟩
  · rw [← hUh]; exact hx1
  · rw [← hUh]; exact hx2
  · intro q hq
    rw [← hUh] at hq ⊢
    exact hx3 q hq
  · have := hx5
    rw [← X₁.warmed.alike.findClass]
    exact this
  · rw [doInvoke_state]
    rw [← hs₂] at ht
    exact hsteps.trans ht
end XCall
end
section
/-! Part 38: 'new X; dup; ldc; invokespecial; athrow' with the stack traces off, X right under RuntimeException; any number for the constructor's link to its parent's -/
/-- what a throw asks of the tables -/
def xA (own : String) (ic : Nat) (cls : String) (k1 : Nat) (bx : ByteArray) : List Cond :=
  Bundle.throwableAtoms ++ (Bundle.throwableSAtoms ++ (Bundle.passSAtoms cls "java/lang/RuntimeException" k1 bx ++ (Bundle.chainSAtoms "java/lang/RuntimeException" ["java/lang/Exception"] ++
  [.methodLink own ic (Bundle.initS cls), .instantiable cls 6, .selects cls Bundle.tFill0 Bundle.tFill0, .selects cls Bundle.tFill Bundle.tFill,
   .lays cls Bundle.tN "cause" "Ljava/lang/Throwable;", .lays cls Bundle.tN "stackTrace" Bundle.steD, .lays cls Bundle.tN "suppressedExceptions" Bundle.listD, .lays cls Bundle.tN "detailMessage" "Ljava/lang/String;",
   .isRef (.static Bundle.tN "UNASSIGNED_STACK" Bundle.steD), .isRef (.static Bundle.tN "SUPPRESSED_SENTINEL" Bundle.listD),
   .fieldLink Bundle.tN 198 Bundle.tN "backtrace" "Ljava/lang/Object;", .lays Bundle.tN Bundle.tN "backtrace" "Ljava/lang/Object;", .lays cls Bundle.tN "backtrace" "Ljava/lang/Object;"])))
theorem xA_5 {own cls : String} {ic k1 : Nat} {bx : ByteArray} {w : Cond} (h : w ∈ ([.methodLink own ic (Bundle.initS cls), .instantiable cls 6, .selects cls Bundle.tFill0 Bundle.tFill0, .selects cls Bundle.tFill Bundle.tFill,
   .lays cls Bundle.tN "cause" "Ljava/lang/Throwable;", .lays cls Bundle.tN "stackTrace" Bundle.steD, .lays cls Bundle.tN "suppressedExceptions" Bundle.listD, .lays cls Bundle.tN "detailMessage" "Ljava/lang/String;",
   .isRef (.static Bundle.tN "UNASSIGNED_STACK" Bundle.steD), .isRef (.static Bundle.tN "SUPPRESSED_SENTINEL" Bundle.listD),
   .fieldLink Bundle.tN 198 Bundle.tN "backtrace" "Ljava/lang/Object;", .lays Bundle.tN Bundle.tN "backtrace" "Ljava/lang/Object;", .lays cls Bundle.tN "backtrace" "Ljava/lang/Object;"] : List Cond)) : w ∈ xA own ic cls k1 bx :=
  List.mem_append_right _ (List.mem_append_right _ (List.mem_append_right _ (List.mem_append_right _ h)))
set_option maxHeartbeats 2000000 in
theorem xthrow {p : Program} {l : Launch} {e : Env} {R : Room} {s : State} {m₀ : MethodId} {args : Array Value} {below : List Frame} {meth : Method} {c : Code} {V : State} {cells slots : Nat}
    (X : Stand p l e R s m₀ args below meth c V [] cells slots) (hexec : p.tables.exec = Jvm.exec) (htr : e.platform.stackTraces = false) {own cls : String} {ic k1 : Nat} {bx : ByteArray}
    (hown : s.vm.findClass own = some m₀.cls) (hcls : Bundle.fit cls = true) (hb0 : decode bx 0 = .ok (.aload_n 0, 1)) (hb1 : decode bx 1 = .ok (.aload_n 1, 1)) (hb2 : decode bx 2 = .ok (.invokespecial k1, 3)) (hb5 : decode bx 5 = .ok (.return_, 1))
    (h : ∀ w ∈ xA own ic cls k1 bx, w.before args s = true)
    {a : Addr} {cX : ClassId} {kX : Class} (hfoundX : s.vm.findClass cls = some cX) (hkX : s.vm.classes[cX]? = some kX) (hcell : V.heap[a]? = some (freshCell cX kX)) (hnew : s.heap.size ≤ a)
    {msg : Value} (hmsg : msg.isRef = true)
    {g : JFrame} (hg : g.method = m₀) (hsize : g.locals.size = c.maxLocals) (hlocked : g.locked = none) (hentered : g.entered = []) {rest : List Value} (hstack : g.stack = msg :: .ref a :: .ref a :: rest)
    (hd6 : decode c.code g.pc = .ok (.invokespecial ic, 3)) (hd9 : decode c.code (g.pc + 3) = .ok (.athrow, 1)) (hout : ∀ x ∈ c.exceptionTable.toList, covers x (g.pc + 3) = false)
    (hRframes : 5 < R.frames) (hRlocals : 2 * g.monitorRoom + ((Value.ref a :: rest).map fun v => v.category).sum + 81 ≤ R.locals) (hlocks : meth.locks = false) :
    ∃ (U : State) (ce : Cell), Steps p.tables e below (V.setTop g) U ∧ U.status = .running ∧ Ended U below (.threw a) ∧ s.WarmedH U.vm ∧ s.sameButNew ({ U with vm := s.vm } : State) [] cells slots ∧
      U.heap = V.heap.setIfInBounds a ce ∧ ce.cls = cX ∧ ce.vm = .none := by
  have howns : e.platform.frameOwnsMonitors = true := by rw [X.admits.platform]
  have hfin : e.platform.finalization = false := by rw [X.admits.platform]
  have hpl : e.platform.magicAccessors = ({} : Platform).magicAccessors := by rw [X.admits.platform]
  obtain ⟨T, Z0, L, -, Y⟩ := ThrowableC.of_atoms (args := args) howns hfin hpl (fun x hx => h x (List.mem_append_left _ hx))
  obtain ⟨Z, M, LZ, LM, hnZ⟩ := Init0T.ofS_atoms (args := args) hpl L Y (fun x hx => h x (List.mem_append_right _ (List.mem_append_left _ hx)))
  have hpass : ∀ w ∈ Bundle.passSAtoms cls "java/lang/RuntimeException" k1 bx, w.before args s = true := fun x hx => h x (List.mem_append_right _ (List.mem_append_right _ (List.mem_append_left _ hx)))
  obtain ⟨P0, L0, hP0m, hP0s⟩ := PassC.ofS_atoms (args := args) hpl (Bundle.fit_spec hcls).1 (Y := "java/lang/RuntimeException") (by decide) hb0 hb1 hb2 hb5 hpass
  obtain ⟨P1, Ps, hlen, L1, hL, hP1m, hlink1, hlink⟩ := Bundle.chainS (args := args) hpl hnZ ["java/lang/Exception"] "java/lang/RuntimeException" (by decide +kernel) (by decide +kernel) (fun x hx => h x (List.mem_append_right _ (List.mem_append_right _ (List.mem_append_right _ (List.mem_append_left _ hx)))))
  have hfound : s.vm.findClass cls = some P0.m.cls := findClass_of_methodNamed hP0m
  cases Option.some.inj (hfoundX.symm.trans hfound)
  obtain ⟨c1, kX', hc1, hk, hord, -, -, hn6⟩ := Cond.instantiable_spec (h (.instantiable cls 6) (xA_5 (by simp)))
  cases Option.some.inj (hc1.symm.trans hfound)
  cases Option.some.inj (hkX.symm.trans hk)
  have hsel : ∀ {mm : MethodName} {r : MethodId}, s.methodNamed? mm = some r → (mm.cls ≠ "java/lang/invoke/MethodHandle" ∧ mm.cls ≠ "java/lang/invoke/VarHandle") → (Cond.selects cls mm mm).before args s = true → selectMethod e.platform s.vm P0.m.cls r = .method r := by
    intro mm r hmm hne hs
    obtain ⟨c2, r2, m2, q1, q2, q3, q4, -⟩ := Cond.selects_spec hs
    cases Option.some.inj (q1.symm.trans hfound)
    cases Option.some.inj (q2.symm.trans (State.methodFound?_of_named hmm hne))
    cases Option.some.inj (q3.symm.trans hmm)
    rw [Launch.admits_selectMethod X.admits]
    exact q4
  have hsel0 := hsel Y.fill0 (by decide) (h (.selects cls Bundle.tFill0 Bundle.tFill0) (xA_5 (by simp)))
  have hselF := hsel Y.fill (by decide) (h (.selects cls Bundle.tFill Bundle.tFill) (xA_5 (by simp)))
  obtain ⟨cellS0, hcS0, hiss⟩ := Y.statics
  obtain ⟨u0, hu0⟩ := Cond.staticRefV Y.unassigned L.unassignedStatic L.statics hcS0 hiss (h (.isRef (.static Bundle.tN "UNASSIGNED_STACK" Bundle.steD)) (xA_5 (by simp)))
  obtain ⟨sen, hsen⟩ := Cond.staticRefV Y.sentinel L.sentinelStatic L.statics hcS0 hiss (h (.isRef (.static Bundle.tN "SUPPRESSED_SENTINEL" Bundle.listD)) (xA_5 (by simp)))
  obtain ⟨ci198, i198, fB, hk198, hg198, ha198, hsB, -, hnB, htB, hffB⟩ := Cond.ownField (t := .object "java/lang/Object") Y.found L.cls (by decide +kernel) (h (.fieldLink Bundle.tN 198 Bundle.tN "backtrace" "Ljava/lang/Object;") (xA_5 (by simp))) (h (.lays Bundle.tN Bundle.tN "backtrace" "Ljava/lang/Object;") (xA_5 (by simp))) e.platform hpl
  obtain ⟨cellS, hcS', heS, -, hkeep⟩ := X.same.2.2.2.2.2 T.aS cellS0 hcS0
  have hcellS : V.heap[T.aS]? = some cellS := hcS'
  have hout' : ∀ i, (⟨T.aS, i⟩ : Loc) ∉ ([] : List Loc) := fun i hmem => by cases hmem
  have hknownS : cellS.vm ≠ .unknown := by
    rw [heS]
    intro hu
    rw [show cellS0.vm = .unknown from hu] at hiss
    cases hiss
  have hneS : T.aS ≠ a := Nat.ne_of_lt (Nat.lt_of_lt_of_le (Array.getElem?_eq_some_iff.mp hcS0).1 hnew)
  obtain ⟨iM, hffM⟩ := Y.msg
  obtain ⟨tyC, dC9, hdC, hdnC⟩ := Cond.laysAt hfound hk Y.cause (h (.lays cls Bundle.tN "cause" "Ljava/lang/Throwable;") (xA_5 (by simp)))
  obtain ⟨tyS, dS9, hdS, hdnS⟩ := Cond.laysAt hfound hk Y.stack (h (.lays cls Bundle.tN "stackTrace" Bundle.steD) (xA_5 (by simp)))
  obtain ⟨tyP, dP9, hdP, hdnP⟩ := Cond.laysAt hfound hk Y.supp (h (.lays cls Bundle.tN "suppressedExceptions" Bundle.listD) (xA_5 (by simp)))
  obtain ⟨tyM, dM9, hdM, hdnM⟩ := Cond.laysAt hfound hk hffM (h (.lays cls Bundle.tN "detailMessage" "Ljava/lang/String;") (xA_5 (by simp)))
  obtain ⟨tyB, dB9, hdB, hdnB⟩ := Cond.laysAt hfound hk hffB (h (.lays cls Bundle.tN "backtrace" "Ljava/lang/Object;") (xA_5 (by simp)))
  have bC := Cond.laysApart hdB hdC hdnB hdnC (by rw [hnB, Y.causeName]; decide)
  have bS := Cond.laysApart hdB hdS hdnB hdnS (by rw [hnB, Y.stackName]; decide)
  have bP := Cond.laysApart hdB hdP hdnB hdnP (by rw [hnB, Y.suppName]; decide)
  have hskip : SkipFacts T e.platform s (fun u => u) u0 ((preparedCellV T.toThrowableT (freshCell P0.m.cls kX) a u0 sen).withEntry V.cur) :=
    ⟨{ ci198 := ci198, i198 := i198, fBack := fB }, ⟨hk198, hg198, ha198, hsB⟩, by
      have h9 := fresh_default (c := P0.m.cls) tyB
      rw [htB] at h9
      simpa [preparedCellV, Cell.setSlot, Cell.withEntry, Array.getElem?_setIfInBounds, bC, bS, bP, bC.symm, bS.symm, bP.symm, defaultValue] using h9, fun _ _ => rfl⟩
  obtain ⟨tm, methC, cdC, kC, vm₁, hnC, -, -, -, -, -, -, -, hW₁, st1⟩ := Steps.initColdS (tb := p.tables) (e := e) (below := below) (s := s) (U := V) X.here hexec X.warmed hpl hown (t := Bundle.initS cls) rfl rfl (Bundle.fit_spec hcls).2
    (h (.methodLink own ic (Bundle.initS cls)) (xA_5 (by simp))) (hpass (.instanceMethod (Bundle.initS cls)) (by simp [Bundle.passSAtoms])) (bytes := bx) (maxL := 2) (hpass (.code (Bundle.initS cls) bx 2 none) (by simp [Bundle.passSAtoms]))
    (f := g) hg (a := a) (msg := msg) (rest := .ref a :: rest) hstack hd6
  cases Option.some.inj (hnC.symm.trans hP0m)
  have X₁ := X.noted hW₁
  have hl3 : (P0 :: P1 :: Ps).length = 3 := by rw [List.length_cons, List.length_cons, hlen]; rfl
  have hP01 : P0.sup = P1.m := Option.some.inj (hP0s.symm.trans hP1m)
  obtain ⟨vm₂, X₂, st2⟩ := X₁.ctorMessageOffV hexec (g := { g with stack := .ref a :: rest }) hg hsize T L Z LZ M LM (P0 :: P1 :: Ps)
    (fun P hP => by
      rcases List.mem_cons.mp hP with rfl | hP
      · exact L0
      · rcases List.mem_cons.mp hP with rfl | hP
        · exact L1
        · exact hL P hP) ⟨hP01, hlink1, hlink⟩ (u0 := u0) (sen := sen) (self := a) hmsg (cell := freshCell P0.m.cls kX) (cellS := cellS)
    hcell (fun _ => by simp) (by simp) rfl rfl hsel0 hselF hcellS hneS hknownS (by rw [hkeep _ (hout' _)]; exact hu0) (by rw [hkeep _ (hout' _)]; exact hsen)
    (Takes.of_laid hk hord tyC (by rw [Y.causeType]; rfl)) (Takes.of_laid hk hord tyS (by rw [Y.stackType]; exact fits_refV_array _ u0)) (Takes.of_laid hk hord tyP (by rw [Y.suppType]; exact fits_refV_object _ sen))
    (Takes.of_laid hk hord tyM (by rw [Y.msgType]; exact fits_refV_object _ ⟨msg, hmsg⟩)) Y.objLocals hskip htr [] hd6
    (by rw [hl3]; omega) (by rw [hl3]; exact hRlocals)
  have X₃ := Stand.forget (locs := []) X₂ (fun y hy => by
    simp only [List.nil_append, List.mem_cons, List.not_mem_nil, or_false] at hy
    rcases hy with rfl | rfl | rfl | rfl | rfl <;> exact hnew)
  obtain ⟨hwalk, hrun, hended, hWU, hsame⟩ := X₃.athrowLeaves hexec (g := { g with stack := .ref a :: rest, pc := g.pc + 3 }) hg hlocked hentered hout (a := a) (rest := rest) rfl hd9 hlocks
  refine ⟨_, plainBareV T.toThrowableT (freshCell P0.m.cls kX) a u0 sen msg, ?_, hrun, hended, hWU, hsame, rfl, ?_, ?_⟩
  · exact st1 _ (fun acts => by
      rw [doInvoke_state]
      exact st2 _ hwalk)
  · simp [plainBareV, Cell.setSlot, freshCell]
  · simp [plainBareV, Cell.setSlot, freshCell]
end
