def wT : List Cond := lw_tbl.filter goodWord
theorem wT_in {w : Cond} (h : w ∈ wT) : w ∈ lw_tbl := (List.mem_filter.mp h).1
theorem gi {c0 c1 : Cond} (h : c1 ∈ wT) : GoodIn (c0 :: wT) (c1 :: wT) := fun w hw => ⟨(List.mem_cons.mp hw).elim (fun e => by rw [e]; exact List.mem_cons_of_mem _ h) (fun h => List.mem_cons_of_mem _ h), good_of_word (List.mem_filter.mp ((List.mem_cons.mp hw).elim (fun e => by rw [e]; exact h) id)).2⟩
theorem giT {c1 : Cond} (h : c1 ∈ wT) : GoodIn wT (c1 :: wT) := fun w hw => ⟨(List.mem_cons.mp hw).elim (fun e => by rw [e]; exact h) id, good_of_word (List.mem_filter.mp ((List.mem_cons.mp hw).elim (fun e => by rw [e]; exact h) id)).2⟩
theorem gw {big ws : List Cond} {w : Cond} (h : w ∈ wT) (hs : ∀ x ∈ wT, x ∈ big) (hg : GoodIn big ws) : GoodIn big (w :: ws) := fun x hx => (List.mem_cons.mp hx).elim (fun e => by rw [e]; exact ⟨hs _ h, good_of_word (List.mem_filter.mp h).2⟩) (fun h => hg x h)
theorem gv {ws : List Cond} {w : Cond} (h : w ∈ wT) (hg : GoodIn wT ws) : GoodIn wT (w :: ws) := fun x hx => (List.mem_cons.mp hx).elim (fun e => by rw [e]; exact ⟨h, good_of_word (List.mem_filter.mp h).2⟩) (fun h => hg x h)
theorem gV {own C : String} {idx : Nat} {y : MethodName} {c1 : Cond} (h1 : Cond.methodLink own idx y ∈ wT) (h2 : Cond.instanceMethod y ∈ wT) (h3 : Cond.selects C y y ∈ wT) (h4 : Cond.initialized C ∈ wT) (h5 : c1 ∈ wT) : GoodIn wT (wsV own idx C y (c1 :: wT)) := gv h1 (gv h2 (gv h3 (gv h4 (giT h5))))
theorem gS {own : String} {idx : Nat} {y : MethodName} {c1 : Cond} (h1 : Cond.methodLink own idx y ∈ wT) (h2 : Cond.static y ∈ wT) (h3 : Cond.initialized own ∈ wT) (h5 : c1 ∈ wT) : GoodIn wT (wsS own idx y (c1 :: wT)) := gv h1 (gv h2 (gv h3 (giT h5)))
theorem gS2 {own : String} {idx : Nat} {y : MethodName} {c1 : Cond} (h1 : Cond.methodLink own idx y ∈ wT) (h2 : Cond.static y ∈ wT) (h3 : Cond.initialized y.cls ∈ wT) (h5 : c1 ∈ wT) : GoodIn wT (va_wsS own idx y (c1 :: wT)) := gv h1 (gv h2 (gv h3 (giT h5)))
theorem wd0 : (Jvm.Cond.selects "java/lang/Throwable" ({ cls := "java/lang/Throwable", name := "fillInStackTrace", desc := "(I)Ljava/lang/Throwable;" } : Jvm.MethodName) ({ cls := "java/lang/Throwable", name := "fillInStackTrace", desc := "(I)Ljava/lang/Throwable;" } : Jvm.MethodName)) ∈ wT := List.mem_filter.mpr ⟨List.mem_of_getElem? (i := 0) (by decide +kernel), by decide +kernel⟩
theorem wd1 : (Jvm.Cond.selects "RuleReader$Bytes" ({ cls := "RuleReader$Bytes", name := "lengthen", desc := "(I)V" } : Jvm.MethodName) ({ cls := "RuleReader$Bytes", name := "lengthen", desc := "(I)V" } : Jvm.MethodName)) ∈ wT := List.mem_filter.mpr ⟨List.mem_of_getElem? (i := 1) (by decide +kernel), by decide +kernel⟩
theorem wd2 : (Jvm.Cond.selects "RuleReader$Bytes" ({ cls := "RuleReader$Bytes", name := "set", desc := "(II)V" } : Jvm.MethodName) ({ cls := "RuleReader$Bytes", name := "set", desc := "(II)V" } : Jvm.MethodName)) ∈ wT := List.mem_filter.mpr ⟨List.mem_of_getElem? (i := 2) (by decide +kernel), by decide +kernel⟩
theorem wd3 : (Jvm.Cond.selects "RuleReader$Bytes" ({ cls := "RuleReader$Bytes", name := "layOver", desc := "([BII)V" } : Jvm.MethodName) ({ cls := "RuleReader$Bytes", name := "layOver", desc := "([BII)V" } : Jvm.MethodName)) ∈ wT := List.mem_filter.mpr ⟨List.mem_of_getElem? (i := 3) (by decide +kernel), by decide +kernel⟩
theorem wd4 : (Jvm.Cond.selects "RuleReader$Nodes" ({ cls := "RuleReader$Nodes", name := "layOutValue", desc := "(IIII)I" } : Jvm.MethodName) ({ cls := "RuleReader$Nodes", name := "layOutValue", desc := "(IIII)I" } : Jvm.MethodName)) ∈ wT := List.mem_filter.mpr ⟨List.mem_of_getElem? (i := 4) (by decide +kernel), by decide +kernel⟩
theorem wd5 : (Jvm.Cond.selects "RuleReader$Header" ({ cls := "RuleReader$Header", name := "decodeIdentifier", desc := "(LRuleReader$Bytes;II)I" } : Jvm.MethodName) ({ cls := "RuleReader$Header", name := "decodeIdentifier", desc := "(LRuleReader$Bytes;II)I" } : Jvm.MethodName)) ∈ wT := List.mem_filter.mpr ⟨List.mem_of_getElem? (i := 5) (by decide +kernel), by decide +kernel⟩
theorem wd6 : (Jvm.Cond.selects "RuleReader$Header" ({ cls := "RuleReader$Header", name := "decodeLongNumber", desc := "(LRuleReader$Bytes;II)I" } : Jvm.MethodName) ({ cls := "RuleReader$Header", name := "decodeLongNumber", desc := "(LRuleReader$Bytes;II)I" } : Jvm.MethodName)) ∈ wT := List.mem_filter.mpr ⟨List.mem_of_getElem? (i := 6) (by decide +kernel), by decide +kernel⟩
theorem wd7 : (Jvm.Cond.selects "RuleReader$Header" ({ cls := "RuleReader$Header", name := "decodeLongLength", desc := "(LRuleReader$Bytes;IIZ)Z" } : Jvm.MethodName) ({ cls := "RuleReader$Header", name := "decodeLongLength", desc := "(LRuleReader$Bytes;IIZ)Z" } : Jvm.MethodName)) ∈ wT := List.mem_filter.mpr ⟨List.mem_of_getElem? (i := 7) (by decide +kernel), by decide +kernel⟩
theorem wd8 : (Jvm.Cond.selects "RuleReader$Nodes" ({ cls := "RuleReader$Nodes", name := "enter", desc := "(II)I" } : Jvm.MethodName) ({ cls := "RuleReader$Nodes", name := "enter", desc := "(II)I" } : Jvm.MethodName)) ∈ wT := List.mem_filter.mpr ⟨List.mem_of_getElem? (i := 8) (by decide +kernel), by decide +kernel⟩
theorem wd9 : (Jvm.Cond.selects "RuleReader$Nodes" ({ cls := "RuleReader$Nodes", name := "put", desc := "(III)V" } : Jvm.MethodName) ({ cls := "RuleReader$Nodes", name := "put", desc := "(III)V" } : Jvm.MethodName)) ∈ wT := List.mem_filter.mpr ⟨List.mem_of_getElem? (i := 9) (by decide +kernel), by decide +kernel⟩
theorem wd10 : (Jvm.Cond.selects "RuleReader$Nodes" ({ cls := "RuleReader$Nodes", name := "indexOf", desc := "(II)I" } : Jvm.MethodName) ({ cls := "RuleReader$Nodes", name := "indexOf", desc := "(II)I" } : Jvm.MethodName)) ∈ wT := List.mem_filter.mpr ⟨List.mem_of_getElem? (i := 10) (by decide +kernel), by decide +kernel⟩
theorem wd11 : (Jvm.Cond.selects "RuleReader$Nodes" ({ cls := "RuleReader$Nodes", name := "layOutUpToZeros", desc := "(IIII)I" } : Jvm.MethodName) ({ cls := "RuleReader$Nodes", name := "layOutUpToZeros", desc := "(IIII)I" } : Jvm.MethodName)) ∈ wT := List.mem_filter.mpr ⟨List.mem_of_getElem? (i := 11) (by decide +kernel), by decide +kernel⟩
theorem wd12 : (Jvm.Cond.selects "RuleReader$Nodes" ({ cls := "RuleReader$Nodes", name := "layOutUpTo", desc := "(IIII)Z" } : Jvm.MethodName) ({ cls := "RuleReader$Nodes", name := "layOutUpTo", desc := "(IIII)Z" } : Jvm.MethodName)) ∈ wT := List.mem_filter.mpr ⟨List.mem_of_getElem? (i := 12) (by decide +kernel), by decide +kernel⟩
theorem wd13 : (Jvm.Cond.selects "RuleReader$Nodes" ({ cls := "RuleReader$Nodes", name := "contentsAt", desc := "(II)I" } : Jvm.MethodName) ({ cls := "RuleReader$Nodes", name := "contentsAt", desc := "(II)I" } : Jvm.MethodName)) ∈ wT := List.mem_filter.mpr ⟨List.mem_of_getElem? (i := 13) (by decide +kernel), by decide +kernel⟩
theorem wd14 : (Jvm.Cond.selects "RuleReader" ({ cls := "RuleReader", name := "writeIdentifier", desc := "(IIZ)V" } : Jvm.MethodName) ({ cls := "RuleReader", name := "writeIdentifier", desc := "(IIZ)V" } : Jvm.MethodName)) ∈ wT := List.mem_filter.mpr ⟨List.mem_of_getElem? (i := 14) (by decide +kernel), by decide +kernel⟩
theorem wd15 : (Jvm.Cond.selects "RuleReader" ({ cls := "RuleReader", name := "writeLength", desc := "(I)V" } : Jvm.MethodName) ({ cls := "RuleReader", name := "writeLength", desc := "(I)V" } : Jvm.MethodName)) ∈ wT := List.mem_filter.mpr ⟨List.mem_of_getElem? (i := 15) (by decide +kernel), by decide +kernel⟩
theorem wd16 : (Jvm.Cond.selects "RuleReaderModel" ({ cls := "RuleReaderModel", name := "fail", desc := "(I)I" } : Jvm.MethodName) ({ cls := "RuleReaderModel", name := "fail", desc := "(I)I" } : Jvm.MethodName)) ∈ wT := List.mem_filter.mpr ⟨List.mem_of_getElem? (i := 16) (by decide +kernel), by decide +kernel⟩
theorem wd17 : (Jvm.Cond.selects "RuleReaderModel" ({ cls := "RuleReaderModel", name := "value", desc := "(III)Z" } : Jvm.MethodName) ({ cls := "RuleReaderModel", name := "value", desc := "(III)Z" } : Jvm.MethodName)) ∈ wT := List.mem_filter.mpr ⟨List.mem_of_getElem? (i := 17) (by decide +kernel), by decide +kernel⟩
theorem wd18 : (Jvm.Cond.selects "RuleReaderModel" ({ cls := "RuleReaderModel", name := "next", desc := "()I" } : Jvm.MethodName) ({ cls := "RuleReaderModel", name := "next", desc := "()I" } : Jvm.MethodName)) ∈ wT := List.mem_filter.mpr ⟨List.mem_of_getElem? (i := 18) (by decide +kernel), by decide +kernel⟩
theorem wd19 : (Jvm.Cond.selects "RuleReaderModel" ({ cls := "RuleReaderModel", name := "length", desc := "()J" } : Jvm.MethodName) ({ cls := "RuleReaderModel", name := "length", desc := "()J" } : Jvm.MethodName)) ∈ wT := List.mem_filter.mpr ⟨List.mem_of_getElem? (i := 19) (by decide +kernel), by decide +kernel⟩
theorem wd20 : (Jvm.Cond.selects "RuleReaderModel" ({ cls := "RuleReaderModel", name := "open", desc := "(III)Z" } : Jvm.MethodName) ({ cls := "RuleReaderModel", name := "open", desc := "(III)Z" } : Jvm.MethodName)) ∈ wT := List.mem_filter.mpr ⟨List.mem_of_getElem? (i := 20) (by decide +kernel), by decide +kernel⟩
theorem wd21 : (Jvm.Cond.selects "RuleReaderModel" ({ cls := "RuleReaderModel", name := "out", desc := "(I)Z" } : Jvm.MethodName) ({ cls := "RuleReaderModel", name := "out", desc := "(I)Z" } : Jvm.MethodName)) ∈ wT := List.mem_filter.mpr ⟨List.mem_of_getElem? (i := 21) (by decide +kernel), by decide +kernel⟩
theorem wd22 : (Jvm.Cond.selects "RuleReaderModel" ({ cls := "RuleReaderModel", name := "headSize", desc := "(II)I" } : Jvm.MethodName) ({ cls := "RuleReaderModel", name := "headSize", desc := "(II)I" } : Jvm.MethodName)) ∈ wT := List.mem_filter.mpr ⟨List.mem_of_getElem? (i := 22) (by decide +kernel), by decide +kernel⟩
theorem wd23 : (Jvm.Cond.selects "RuleReaderModel" ({ cls := "RuleReaderModel", name := "head", desc := "(IIIZI)I" } : Jvm.MethodName) ({ cls := "RuleReaderModel", name := "head", desc := "(IIIZI)I" } : Jvm.MethodName)) ∈ wT := List.mem_filter.mpr ⟨List.mem_of_getElem? (i := 23) (by decide +kernel), by decide +kernel⟩
theorem wd24 : (Jvm.Cond.selects "RuleReaderModel" ({ cls := "RuleReaderModel", name := "bytesOf", desc := "(J)I" } : Jvm.MethodName) ({ cls := "RuleReaderModel", name := "bytesOf", desc := "(J)I" } : Jvm.MethodName)) ∈ wT := List.mem_filter.mpr ⟨List.mem_of_getElem? (i := 24) (by decide +kernel), by decide +kernel⟩
theorem wd25 : (Jvm.Cond.initialized "RuleReaderLaw") ∈ wT := List.mem_filter.mpr ⟨List.mem_of_getElem? (i := 25) (by decide +kernel), by decide +kernel⟩
theorem wd26 : (Jvm.Cond.initialized "RuleReader") ∈ wT := List.mem_filter.mpr ⟨List.mem_of_getElem? (i := 26) (by decide +kernel), by decide +kernel⟩
theorem wd27 : (Jvm.Cond.initialized "RuleReader$Bytes") ∈ wT := List.mem_filter.mpr ⟨List.mem_of_getElem? (i := 27) (by decide +kernel), by decide +kernel⟩
theorem wd28 : (Jvm.Cond.initialized "RuleReader$Nodes") ∈ wT := List.mem_filter.mpr ⟨List.mem_of_getElem? (i := 28) (by decide +kernel), by decide +kernel⟩
theorem wd29 : (Jvm.Cond.initialized "RuleReader$Header") ∈ wT := List.mem_filter.mpr ⟨List.mem_of_getElem? (i := 29) (by decide +kernel), by decide +kernel⟩
theorem wd30 : (Jvm.Cond.initialized "RuleReaderModel") ∈ wT := List.mem_filter.mpr ⟨List.mem_of_getElem? (i := 30) (by decide +kernel), by decide +kernel⟩
theorem wd31 : (Jvm.Cond.initialized "java/lang/Throwable") ∈ wT := List.mem_filter.mpr ⟨List.mem_of_getElem? (i := 31) (by decide +kernel), by decide +kernel⟩
theorem wd32 : (Jvm.Cond.initialized "java/lang/Exception") ∈ wT := List.mem_filter.mpr ⟨List.mem_of_getElem? (i := 32) (by decide +kernel), by decide +kernel⟩
theorem wd33 : (Jvm.Cond.initialized "java/lang/RuntimeException") ∈ wT := List.mem_filter.mpr ⟨List.mem_of_getElem? (i := 33) (by decide +kernel), by decide +kernel⟩
theorem wd34 : (Jvm.Cond.initialized "java/lang/IndexOutOfBoundsException") ∈ wT := List.mem_filter.mpr ⟨List.mem_of_getElem? (i := 34) (by decide +kernel), by decide +kernel⟩
theorem wd35 : (Jvm.Cond.initialized "java/lang/Math") ∈ wT := List.mem_filter.mpr ⟨List.mem_of_getElem? (i := 35) (by decide +kernel), by decide +kernel⟩
theorem wd36 : (Jvm.Cond.initialized "java/util/Arrays") ∈ wT := List.mem_filter.mpr ⟨List.mem_of_getElem? (i := 36) (by decide +kernel), by decide +kernel⟩
theorem wd37 : (Jvm.Cond.initialized "java/lang/System") ∈ wT := List.mem_filter.mpr ⟨List.mem_of_getElem? (i := 37) (by decide +kernel), by decide +kernel⟩
theorem wd38 : (Jvm.Cond.initialized "java/lang/IllegalArgumentException") ∈ wT := List.mem_filter.mpr ⟨List.mem_of_getElem? (i := 38) (by decide +kernel), by decide +kernel⟩
theorem wd39 : (Jvm.Cond.initialized "java/lang/UnsupportedOperationException") ∈ wT := List.mem_filter.mpr ⟨List.mem_of_getElem? (i := 39) (by decide +kernel), by decide +kernel⟩
theorem wd40 : (Jvm.Cond.initialized "java/lang/ArithmeticException") ∈ wT := List.mem_filter.mpr ⟨List.mem_of_getElem? (i := 40) (by decide +kernel), by decide +kernel⟩
theorem wd41 : (Jvm.Cond.initialized "java/lang/Integer") ∈ wT := List.mem_filter.mpr ⟨List.mem_of_getElem? (i := 41) (by decide +kernel), by decide +kernel⟩
theorem wd42 : (Jvm.Cond.classLink "RuleReaderLaw" (8 : Nat) "RuleReader") ∈ wT := List.mem_filter.mpr ⟨List.mem_of_getElem? (i := 42) (by decide +kernel), by decide +kernel⟩
theorem wd43 : (Jvm.Cond.instantiable "RuleReader" (4 : Nat)) ∈ wT := List.mem_filter.mpr ⟨List.mem_of_getElem? (i := 43) (by decide +kernel), by decide +kernel⟩
theorem wd44 : (Jvm.Cond.methodLink "RuleReaderLaw" (54 : Nat) ({ cls := "RuleReader", name := "<init>", desc := "()V" } : Jvm.MethodName)) ∈ wT := List.mem_filter.mpr ⟨List.mem_of_getElem? (i := 44) (by decide +kernel), by decide +kernel⟩
theorem wd45 : (Jvm.Cond.instanceMethod ({ cls := "RuleReader", name := "<init>", desc := "()V" } : Jvm.MethodName)) ∈ wT := List.mem_filter.mpr ⟨List.mem_of_getElem? (i := 45) (by decide +kernel), by decide +kernel⟩
theorem wd46 : (Jvm.Cond.code ({ cls := "RuleReader", name := "<init>", desc := "()V" } : Jvm.MethodName) prog_1_method_1_code (1 : Nat) (Option.none : Option Jvm.ClassFile.FieldType)) ∈ wT := List.mem_filter.mpr ⟨List.mem_of_getElem? (i := 46) (by decide +kernel), by decide +kernel⟩
theorem wd47 : (Jvm.Cond.methodLink "RuleReader" (3 : Nat) ({ cls := "java/lang/Object", name := "<init>", desc := "()V" } : Jvm.MethodName)) ∈ wT := List.mem_filter.mpr ⟨List.mem_of_getElem? (i := 47) (by decide +kernel), by decide +kernel⟩
theorem wd48 : (Jvm.Cond.instanceMethod ({ cls := "java/lang/Object", name := "<init>", desc := "()V" } : Jvm.MethodName)) ∈ wT := List.mem_filter.mpr ⟨List.mem_of_getElem? (i := 48) (by decide +kernel), by decide +kernel⟩
theorem wd49 : (Jvm.Cond.code ({ cls := "java/lang/Object", name := "<init>", desc := "()V" } : Jvm.MethodName) object_method_1_code (1 : Nat) (Option.none : Option Jvm.ClassFile.FieldType)) ∈ wT := List.mem_filter.mpr ⟨List.mem_of_getElem? (i := 49) (by decide +kernel), by decide +kernel⟩
theorem wd50 : (Jvm.Cond.classLink "RuleReader" (9 : Nat) "RuleReader$Bytes") ∈ wT := List.mem_filter.mpr ⟨List.mem_of_getElem? (i := 50) (by decide +kernel), by decide +kernel⟩
theorem wd51 : (Jvm.Cond.instantiable "RuleReader$Bytes" (2 : Nat)) ∈ wT := List.mem_filter.mpr ⟨List.mem_of_getElem? (i := 51) (by decide +kernel), by decide +kernel⟩
theorem wd52 : (Jvm.Cond.methodLink "RuleReader" (11 : Nat) ({ cls := "RuleReader$Bytes", name := "<init>", desc := "()V" } : Jvm.MethodName)) ∈ wT := List.mem_filter.mpr ⟨List.mem_of_getElem? (i := 52) (by decide +kernel), by decide +kernel⟩
theorem wd53 : (Jvm.Cond.instanceMethod ({ cls := "RuleReader$Bytes", name := "<init>", desc := "()V" } : Jvm.MethodName)) ∈ wT := List.mem_filter.mpr ⟨List.mem_of_getElem? (i := 53) (by decide +kernel), by decide +kernel⟩
theorem wd54 : (Jvm.Cond.code ({ cls := "RuleReader$Bytes", name := "<init>", desc := "()V" } : Jvm.MethodName) prog_2_method_1_code (1 : Nat) (Option.none : Option Jvm.ClassFile.FieldType)) ∈ wT := List.mem_filter.mpr ⟨List.mem_of_getElem? (i := 54) (by decide +kernel), by decide +kernel⟩
theorem wd55 : (Jvm.Cond.methodLink "RuleReader$Bytes" (3 : Nat) ({ cls := "java/lang/Object", name := "<init>", desc := "()V" } : Jvm.MethodName)) ∈ wT := List.mem_filter.mpr ⟨List.mem_of_getElem? (i := 55) (by decide +kernel), by decide +kernel⟩
theorem wd56 : (Jvm.Cond.fieldLink "RuleReader$Bytes" (9 : Nat) "RuleReader$Bytes" "row" "[B") ∈ wT := List.mem_filter.mpr ⟨List.mem_of_getElem? (i := 56) (by decide +kernel), by decide +kernel⟩
theorem wd57 : (Jvm.Cond.fieldLink "RuleReader$Bytes" (15 : Nat) "RuleReader$Bytes" "length" "I") ∈ wT := List.mem_filter.mpr ⟨List.mem_of_getElem? (i := 57) (by decide +kernel), by decide +kernel⟩
theorem wd58 : (Jvm.Cond.lays "RuleReader$Bytes" "RuleReader$Bytes" "row" "[B") ∈ wT := List.mem_filter.mpr ⟨List.mem_of_getElem? (i := 58) (by decide +kernel), by decide +kernel⟩
theorem wd59 : (Jvm.Cond.soleField "RuleReader$Bytes" "row") ∈ wT := List.mem_filter.mpr ⟨List.mem_of_getElem? (i := 59) (by decide +kernel), by decide +kernel⟩
theorem wd60 : (Jvm.Cond.lays "RuleReader$Bytes" "RuleReader$Bytes" "length" "I") ∈ wT := List.mem_filter.mpr ⟨List.mem_of_getElem? (i := 60) (by decide +kernel), by decide +kernel⟩
theorem wd61 : (Jvm.Cond.soleField "RuleReader$Bytes" "length") ∈ wT := List.mem_filter.mpr ⟨List.mem_of_getElem? (i := 61) (by decide +kernel), by decide +kernel⟩
theorem wd62 : (Jvm.Cond.superclass "RuleReader$Bytes" "java/lang/Object") ∈ wT := List.mem_filter.mpr ⟨List.mem_of_getElem? (i := 62) (by decide +kernel), by decide +kernel⟩
theorem wd63 : (Jvm.Cond.arrayClass Jvm.ClassFile.FieldType.byte) ∈ wT := List.mem_filter.mpr ⟨List.mem_of_getElem? (i := 63) (by decide +kernel), by decide +kernel⟩
theorem wd64 : (Jvm.Cond.classLink "RuleReader" (19 : Nat) "RuleReader$Nodes") ∈ wT := List.mem_filter.mpr ⟨List.mem_of_getElem? (i := 64) (by decide +kernel), by decide +kernel⟩
theorem wd65 : (Jvm.Cond.instantiable "RuleReader$Nodes" (5 : Nat)) ∈ wT := List.mem_filter.mpr ⟨List.mem_of_getElem? (i := 65) (by decide +kernel), by decide +kernel⟩
theorem wd66 : (Jvm.Cond.methodLink "RuleReader" (21 : Nat) ({ cls := "RuleReader$Nodes", name := "<init>", desc := "()V" } : Jvm.MethodName)) ∈ wT := List.mem_filter.mpr ⟨List.mem_of_getElem? (i := 66) (by decide +kernel), by decide +kernel⟩
theorem wd67 : (Jvm.Cond.instanceMethod ({ cls := "RuleReader$Nodes", name := "<init>", desc := "()V" } : Jvm.MethodName)) ∈ wT := List.mem_filter.mpr ⟨List.mem_of_getElem? (i := 67) (by decide +kernel), by decide +kernel⟩
theorem wd68 : (Jvm.Cond.code ({ cls := "RuleReader$Nodes", name := "<init>", desc := "()V" } : Jvm.MethodName) prog_4_method_1_code (1 : Nat) (Option.none : Option Jvm.ClassFile.FieldType)) ∈ wT := List.mem_filter.mpr ⟨List.mem_of_getElem? (i := 68) (by decide +kernel), by decide +kernel⟩
theorem wd69 : (Jvm.Cond.methodLink "RuleReader$Nodes" (3 : Nat) ({ cls := "java/lang/Object", name := "<init>", desc := "()V" } : Jvm.MethodName)) ∈ wT := List.mem_filter.mpr ⟨List.mem_of_getElem? (i := 69) (by decide +kernel), by decide +kernel⟩
theorem wd70 : (Jvm.Cond.classLink "RuleReader$Nodes" (9 : Nat) "RuleReader$Bytes") ∈ wT := List.mem_filter.mpr ⟨List.mem_of_getElem? (i := 70) (by decide +kernel), by decide +kernel⟩
theorem wd71 : (Jvm.Cond.methodLink "RuleReader$Nodes" (11 : Nat) ({ cls := "RuleReader$Bytes", name := "<init>", desc := "()V" } : Jvm.MethodName)) ∈ wT := List.mem_filter.mpr ⟨List.mem_of_getElem? (i := 71) (by decide +kernel), by decide +kernel⟩
theorem wd72 : (Jvm.Cond.classLink "RuleReader$Nodes" (18 : Nat) "RuleReader$Header") ∈ wT := List.mem_filter.mpr ⟨List.mem_of_getElem? (i := 72) (by decide +kernel), by decide +kernel⟩
theorem wd73 : (Jvm.Cond.instantiable "RuleReader$Header" (6 : Nat)) ∈ wT := List.mem_filter.mpr ⟨List.mem_of_getElem? (i := 73) (by decide +kernel), by decide +kernel⟩
theorem wd74 : (Jvm.Cond.methodLink "RuleReader$Nodes" (20 : Nat) ({ cls := "RuleReader$Header", name := "<init>", desc := "()V" } : Jvm.MethodName)) ∈ wT := List.mem_filter.mpr ⟨List.mem_of_getElem? (i := 74) (by decide +kernel), by decide +kernel⟩
theorem wd75 : (Jvm.Cond.instanceMethod ({ cls := "RuleReader$Header", name := "<init>", desc := "()V" } : Jvm.MethodName)) ∈ wT := List.mem_filter.mpr ⟨List.mem_of_getElem? (i := 75) (by decide +kernel), by decide +kernel⟩
theorem wd76 : (Jvm.Cond.code ({ cls := "RuleReader$Header", name := "<init>", desc := "()V" } : Jvm.MethodName) prog_3_method_1_code (1 : Nat) (Option.none : Option Jvm.ClassFile.FieldType)) ∈ wT := List.mem_filter.mpr ⟨List.mem_of_getElem? (i := 76) (by decide +kernel), by decide +kernel⟩
theorem wd77 : (Jvm.Cond.methodLink "RuleReader$Header" (3 : Nat) ({ cls := "java/lang/Object", name := "<init>", desc := "()V" } : Jvm.MethodName)) ∈ wT := List.mem_filter.mpr ⟨List.mem_of_getElem? (i := 77) (by decide +kernel), by decide +kernel⟩
theorem wd78 : (Jvm.Cond.fieldLink "RuleReader$Header" (9 : Nat) "RuleReader$Header" "kind" "I") ∈ wT := List.mem_filter.mpr ⟨List.mem_of_getElem? (i := 78) (by decide +kernel), by decide +kernel⟩
theorem wl79 : (Jvm.Cond.fieldLinkNest "RuleReader$Nodes" (117 : Nat) "RuleReader$Header" "kind" "I" "RuleReader") ∈ lw_tbl := List.mem_of_getElem? (i := 79) (by decide +kernel)
theorem wd80 : (Jvm.Cond.fieldLink "RuleReader$Header" (15 : Nat) "RuleReader$Header" "constructed" "Z") ∈ wT := List.mem_filter.mpr ⟨List.mem_of_getElem? (i := 80) (by decide +kernel), by decide +kernel⟩
theorem wl81 : (Jvm.Cond.fieldLinkNest "RuleReader$Nodes" (104 : Nat) "RuleReader$Header" "constructed" "Z" "RuleReader") ∈ lw_tbl := List.mem_of_getElem? (i := 81) (by decide +kernel)
theorem wd82 : (Jvm.Cond.fieldLink "RuleReader$Header" (19 : Nat) "RuleReader$Header" "tag" "I") ∈ wT := List.mem_filter.mpr ⟨List.mem_of_getElem? (i := 82) (by decide +kernel), by decide +kernel⟩
theorem wl83 : (Jvm.Cond.fieldLinkNest "RuleReader$Nodes" (120 : Nat) "RuleReader$Header" "tag" "I" "RuleReader") ∈ lw_tbl := List.mem_of_getElem? (i := 83) (by decide +kernel)
theorem wd84 : (Jvm.Cond.fieldLink "RuleReader$Header" (22 : Nat) "RuleReader$Header" "open" "Z") ∈ wT := List.mem_filter.mpr ⟨List.mem_of_getElem? (i := 84) (by decide +kernel), by decide +kernel⟩
theorem wl85 : (Jvm.Cond.fieldLinkNest "RuleReader$Nodes" (92 : Nat) "RuleReader$Header" "open" "Z" "RuleReader") ∈ lw_tbl := List.mem_of_getElem? (i := 85) (by decide +kernel)
theorem wd86 : (Jvm.Cond.fieldLink "RuleReader$Header" (25 : Nat) "RuleReader$Header" "size" "I") ∈ wT := List.mem_filter.mpr ⟨List.mem_of_getElem? (i := 86) (by decide +kernel), by decide +kernel⟩
theorem wl87 : (Jvm.Cond.fieldLinkNest "RuleReader$Nodes" (102 : Nat) "RuleReader$Header" "size" "I" "RuleReader") ∈ lw_tbl := List.mem_of_getElem? (i := 87) (by decide +kernel)
theorem wd88 : (Jvm.Cond.fieldLink "RuleReader$Header" (28 : Nat) "RuleReader$Header" "contents" "I") ∈ wT := List.mem_filter.mpr ⟨List.mem_of_getElem? (i := 88) (by decide +kernel), by decide +kernel⟩
theorem wl89 : (Jvm.Cond.fieldLinkNest "RuleReader$Nodes" (89 : Nat) "RuleReader$Header" "contents" "I" "RuleReader") ∈ lw_tbl := List.mem_of_getElem? (i := 89) (by decide +kernel)
theorem wd90 : (Jvm.Cond.lays "RuleReader$Header" "RuleReader$Header" "kind" "I") ∈ wT := List.mem_filter.mpr ⟨List.mem_of_getElem? (i := 90) (by decide +kernel), by decide +kernel⟩
theorem wd91 : (Jvm.Cond.soleField "RuleReader$Header" "kind") ∈ wT := List.mem_filter.mpr ⟨List.mem_of_getElem? (i := 91) (by decide +kernel), by decide +kernel⟩
theorem wd92 : (Jvm.Cond.lays "RuleReader$Header" "RuleReader$Header" "constructed" "Z") ∈ wT := List.mem_filter.mpr ⟨List.mem_of_getElem? (i := 92) (by decide +kernel), by decide +kernel⟩
theorem wd93 : (Jvm.Cond.soleField "RuleReader$Header" "constructed") ∈ wT := List.mem_filter.mpr ⟨List.mem_of_getElem? (i := 93) (by decide +kernel), by decide +kernel⟩
theorem wd94 : (Jvm.Cond.lays "RuleReader$Header" "RuleReader$Header" "tag" "I") ∈ wT := List.mem_filter.mpr ⟨List.mem_of_getElem? (i := 94) (by decide +kernel), by decide +kernel⟩
theorem wd95 : (Jvm.Cond.soleField "RuleReader$Header" "tag") ∈ wT := List.mem_filter.mpr ⟨List.mem_of_getElem? (i := 95) (by decide +kernel), by decide +kernel⟩
theorem wd96 : (Jvm.Cond.lays "RuleReader$Header" "RuleReader$Header" "open" "Z") ∈ wT := List.mem_filter.mpr ⟨List.mem_of_getElem? (i := 96) (by decide +kernel), by decide +kernel⟩
theorem wd97 : (Jvm.Cond.soleField "RuleReader$Header" "open") ∈ wT := List.mem_filter.mpr ⟨List.mem_of_getElem? (i := 97) (by decide +kernel), by decide +kernel⟩
theorem wd98 : (Jvm.Cond.lays "RuleReader$Header" "RuleReader$Header" "size" "I") ∈ wT := List.mem_filter.mpr ⟨List.mem_of_getElem? (i := 98) (by decide +kernel), by decide +kernel⟩
theorem wd99 : (Jvm.Cond.soleField "RuleReader$Header" "size") ∈ wT := List.mem_filter.mpr ⟨List.mem_of_getElem? (i := 99) (by decide +kernel), by decide +kernel⟩
theorem wd100 : (Jvm.Cond.lays "RuleReader$Header" "RuleReader$Header" "contents" "I") ∈ wT := List.mem_filter.mpr ⟨List.mem_of_getElem? (i := 100) (by decide +kernel), by decide +kernel⟩
theorem wd101 : (Jvm.Cond.soleField "RuleReader$Header" "contents") ∈ wT := List.mem_filter.mpr ⟨List.mem_of_getElem? (i := 101) (by decide +kernel), by decide +kernel⟩
theorem wd102 : (Jvm.Cond.superclass "RuleReader$Header" "java/lang/Object") ∈ wT := List.mem_filter.mpr ⟨List.mem_of_getElem? (i := 102) (by decide +kernel), by decide +kernel⟩
theorem wd103 : (Jvm.Cond.fieldLink "RuleReader$Nodes" (12 : Nat) "RuleReader$Nodes" "bytes" "LRuleReader$Bytes;") ∈ wT := List.mem_filter.mpr ⟨List.mem_of_getElem? (i := 103) (by decide +kernel), by decide +kernel⟩
theorem wd104 : (Jvm.Cond.fieldLink "RuleReader$Nodes" (21 : Nat) "RuleReader$Nodes" "header" "LRuleReader$Header;") ∈ wT := List.mem_filter.mpr ⟨List.mem_of_getElem? (i := 104) (by decide +kernel), by decide +kernel⟩
theorem wd105 : (Jvm.Cond.fieldLink "RuleReader$Nodes" (25 : Nat) "RuleReader$Nodes" "rows" "[I") ∈ wT := List.mem_filter.mpr ⟨List.mem_of_getElem? (i := 105) (by decide +kernel), by decide +kernel⟩
theorem wd106 : (Jvm.Cond.fieldLink "RuleReader$Nodes" (29 : Nat) "RuleReader$Nodes" "many" "I") ∈ wT := List.mem_filter.mpr ⟨List.mem_of_getElem? (i := 106) (by decide +kernel), by decide +kernel⟩
theorem wd107 : (Jvm.Cond.fieldLink "RuleReader$Nodes" (33 : Nat) "RuleReader$Nodes" "strict" "Z") ∈ wT := List.mem_filter.mpr ⟨List.mem_of_getElem? (i := 107) (by decide +kernel), by decide +kernel⟩
theorem wd108 : (Jvm.Cond.laysFinal "RuleReader$Nodes" "RuleReader$Nodes" "bytes" "LRuleReader$Bytes;") ∈ wT := List.mem_filter.mpr ⟨List.mem_of_getElem? (i := 108) (by decide +kernel), by decide +kernel⟩
theorem wd109 : (Jvm.Cond.soleField "RuleReader$Nodes" "bytes") ∈ wT := List.mem_filter.mpr ⟨List.mem_of_getElem? (i := 109) (by decide +kernel), by decide +kernel⟩
theorem wd110 : (Jvm.Cond.laysFinal "RuleReader$Nodes" "RuleReader$Nodes" "header" "LRuleReader$Header;") ∈ wT := List.mem_filter.mpr ⟨List.mem_of_getElem? (i := 110) (by decide +kernel), by decide +kernel⟩
theorem wd111 : (Jvm.Cond.soleField "RuleReader$Nodes" "header") ∈ wT := List.mem_filter.mpr ⟨List.mem_of_getElem? (i := 111) (by decide +kernel), by decide +kernel⟩
theorem wd112 : (Jvm.Cond.lays "RuleReader$Nodes" "RuleReader$Nodes" "rows" "[I") ∈ wT := List.mem_filter.mpr ⟨List.mem_of_getElem? (i := 112) (by decide +kernel), by decide +kernel⟩
theorem wd113 : (Jvm.Cond.soleField "RuleReader$Nodes" "rows") ∈ wT := List.mem_filter.mpr ⟨List.mem_of_getElem? (i := 113) (by decide +kernel), by decide +kernel⟩
theorem wd114 : (Jvm.Cond.lays "RuleReader$Nodes" "RuleReader$Nodes" "many" "I") ∈ wT := List.mem_filter.mpr ⟨List.mem_of_getElem? (i := 114) (by decide +kernel), by decide +kernel⟩
theorem wd115 : (Jvm.Cond.soleField "RuleReader$Nodes" "many") ∈ wT := List.mem_filter.mpr ⟨List.mem_of_getElem? (i := 115) (by decide +kernel), by decide +kernel⟩
theorem wd116 : (Jvm.Cond.lays "RuleReader$Nodes" "RuleReader$Nodes" "strict" "Z") ∈ wT := List.mem_filter.mpr ⟨List.mem_of_getElem? (i := 116) (by decide +kernel), by decide +kernel⟩
theorem wd117 : (Jvm.Cond.soleField "RuleReader$Nodes" "strict") ∈ wT := List.mem_filter.mpr ⟨List.mem_of_getElem? (i := 117) (by decide +kernel), by decide +kernel⟩
theorem wd118 : (Jvm.Cond.superclass "RuleReader$Nodes" "java/lang/Object") ∈ wT := List.mem_filter.mpr ⟨List.mem_of_getElem? (i := 118) (by decide +kernel), by decide +kernel⟩
theorem wd119 : (Jvm.Cond.arrayClass Jvm.ClassFile.FieldType.int) ∈ wT := List.mem_filter.mpr ⟨List.mem_of_getElem? (i := 119) (by decide +kernel), by decide +kernel⟩
theorem wd120 : (Jvm.Cond.fieldLink "RuleReader" (12 : Nat) "RuleReader" "tape" "LRuleReader$Bytes;") ∈ wT := List.mem_filter.mpr ⟨List.mem_of_getElem? (i := 120) (by decide +kernel), by decide +kernel⟩
theorem wd121 : (Jvm.Cond.fieldLink "RuleReader" (16 : Nat) "RuleReader" "piece" "LRuleReader$Bytes;") ∈ wT := List.mem_filter.mpr ⟨List.mem_of_getElem? (i := 121) (by decide +kernel), by decide +kernel⟩
theorem wd122 : (Jvm.Cond.fieldLink "RuleReader" (22 : Nat) "RuleReader" "nodes" "LRuleReader$Nodes;") ∈ wT := List.mem_filter.mpr ⟨List.mem_of_getElem? (i := 122) (by decide +kernel), by decide +kernel⟩
theorem wd123 : (Jvm.Cond.fieldLink "RuleReader" (26 : Nat) "RuleReader" "spare" "LRuleReader$Nodes;") ∈ wT := List.mem_filter.mpr ⟨List.mem_of_getElem? (i := 123) (by decide +kernel), by decide +kernel⟩
theorem wd124 : (Jvm.Cond.laysFinal "RuleReader" "RuleReader" "tape" "LRuleReader$Bytes;") ∈ wT := List.mem_filter.mpr ⟨List.mem_of_getElem? (i := 124) (by decide +kernel), by decide +kernel⟩
theorem wd125 : (Jvm.Cond.soleField "RuleReader" "tape") ∈ wT := List.mem_filter.mpr ⟨List.mem_of_getElem? (i := 125) (by decide +kernel), by decide +kernel⟩
theorem wd126 : (Jvm.Cond.laysFinal "RuleReader" "RuleReader" "piece" "LRuleReader$Bytes;") ∈ wT := List.mem_filter.mpr ⟨List.mem_of_getElem? (i := 126) (by decide +kernel), by decide +kernel⟩
theorem wd127 : (Jvm.Cond.soleField "RuleReader" "piece") ∈ wT := List.mem_filter.mpr ⟨List.mem_of_getElem? (i := 127) (by decide +kernel), by decide +kernel⟩
theorem wd128 : (Jvm.Cond.lays "RuleReader" "RuleReader" "nodes" "LRuleReader$Nodes;") ∈ wT := List.mem_filter.mpr ⟨List.mem_of_getElem? (i := 128) (by decide +kernel), by decide +kernel⟩
theorem wd129 : (Jvm.Cond.soleField "RuleReader" "nodes") ∈ wT := List.mem_filter.mpr ⟨List.mem_of_getElem? (i := 129) (by decide +kernel), by decide +kernel⟩
theorem wd130 : (Jvm.Cond.lays "RuleReader" "RuleReader" "spare" "LRuleReader$Nodes;") ∈ wT := List.mem_filter.mpr ⟨List.mem_of_getElem? (i := 130) (by decide +kernel), by decide +kernel⟩
theorem wd131 : (Jvm.Cond.soleField "RuleReader" "spare") ∈ wT := List.mem_filter.mpr ⟨List.mem_of_getElem? (i := 131) (by decide +kernel), by decide +kernel⟩
theorem wd132 : (Jvm.Cond.superclass "RuleReader" "java/lang/Object") ∈ wT := List.mem_filter.mpr ⟨List.mem_of_getElem? (i := 132) (by decide +kernel), by decide +kernel⟩
theorem wd133 : (Jvm.Cond.methodLink "RuleReaderLaw" (58 : Nat) ({ cls := "RuleReaderLaw", name := "feed", desc := "(LRuleReader;IIIII[J)I" } : Jvm.MethodName)) ∈ wT := List.mem_filter.mpr ⟨List.mem_of_getElem? (i := 133) (by decide +kernel), by decide +kernel⟩
theorem wd134 : (Jvm.Cond.static ({ cls := "RuleReaderLaw", name := "feed", desc := "(LRuleReader;IIIII[J)I" } : Jvm.MethodName)) ∈ wT := List.mem_filter.mpr ⟨List.mem_of_getElem? (i := 134) (by decide +kernel), by decide +kernel⟩
theorem wd135 : (Jvm.Cond.codeWith ({ cls := "RuleReaderLaw", name := "feed", desc := "(LRuleReader;IIIII[J)I" } : Jvm.MethodName) method_3_code (8 : Nat) (Option.some Jvm.ClassFile.FieldType.int) [((0 : Nat), (16 : Nat), (19 : Nat), (13 : Nat))]) ∈ wT := List.mem_filter.mpr ⟨List.mem_of_getElem? (i := 135) (by decide +kernel), by decide +kernel⟩
theorem wd136 : (Jvm.Cond.classLink "RuleReaderLaw" (13 : Nat) "java/lang/IndexOutOfBoundsException") ∈ wT := List.mem_filter.mpr ⟨List.mem_of_getElem? (i := 136) (by decide +kernel), by decide +kernel⟩
theorem wd137 : (Jvm.Cond.methodLink "RuleReaderLaw" (7 : Nat) ({ cls := "RuleReader", name := "feed", desc := "(IIIII)I" } : Jvm.MethodName)) ∈ wT := List.mem_filter.mpr ⟨List.mem_of_getElem? (i := 137) (by decide +kernel), by decide +kernel⟩
theorem wd138 : (Jvm.Cond.instanceMethod ({ cls := "RuleReader", name := "feed", desc := "(IIIII)I" } : Jvm.MethodName)) ∈ wT := List.mem_filter.mpr ⟨List.mem_of_getElem? (i := 138) (by decide +kernel), by decide +kernel⟩
theorem wd139 : (Jvm.Cond.selects "RuleReader" ({ cls := "RuleReader", name := "feed", desc := "(IIIII)I" } : Jvm.MethodName) ({ cls := "RuleReader", name := "feed", desc := "(IIIII)I" } : Jvm.MethodName)) ∈ wT := List.mem_filter.mpr ⟨List.mem_of_getElem? (i := 139) (by decide +kernel), by decide +kernel⟩
theorem wd140 : (Jvm.Cond.code ({ cls := "RuleReader", name := "feed", desc := "(IIIII)I" } : Jvm.MethodName) prog_1_method_2_code (6 : Nat) (Option.some Jvm.ClassFile.FieldType.int)) ∈ wT := List.mem_filter.mpr ⟨List.mem_of_getElem? (i := 140) (by decide +kernel), by decide +kernel⟩
theorem wd141 : (Jvm.Cond.methodLink "RuleReader" (29 : Nat) ({ cls := "RuleReader$Bytes", name := "hasRoomFor", desc := "(I)Z" } : Jvm.MethodName)) ∈ wT := List.mem_filter.mpr ⟨List.mem_of_getElem? (i := 141) (by decide +kernel), by decide +kernel⟩
theorem wd142 : (Jvm.Cond.instanceMethod ({ cls := "RuleReader$Bytes", name := "hasRoomFor", desc := "(I)Z" } : Jvm.MethodName)) ∈ wT := List.mem_filter.mpr ⟨List.mem_of_getElem? (i := 142) (by decide +kernel), by decide +kernel⟩
theorem wd143 : (Jvm.Cond.selects "RuleReader$Bytes" ({ cls := "RuleReader$Bytes", name := "hasRoomFor", desc := "(I)Z" } : Jvm.MethodName) ({ cls := "RuleReader$Bytes", name := "hasRoomFor", desc := "(I)Z" } : Jvm.MethodName)) ∈ wT := List.mem_filter.mpr ⟨List.mem_of_getElem? (i := 143) (by decide +kernel), by decide +kernel⟩
theorem wd144 : (Jvm.Cond.code ({ cls := "RuleReader$Bytes", name := "hasRoomFor", desc := "(I)Z" } : Jvm.MethodName) prog_2_method_3_code (2 : Nat) (Option.some Jvm.ClassFile.FieldType.boolean)) ∈ wT := List.mem_filter.mpr ⟨List.mem_of_getElem? (i := 144) (by decide +kernel), by decide +kernel⟩
theorem wd145 : (Jvm.Cond.classLink "RuleReader" (33 : Nat) "java/lang/IndexOutOfBoundsException") ∈ wT := List.mem_filter.mpr ⟨List.mem_of_getElem? (i := 145) (by decide +kernel), by decide +kernel⟩
theorem wd146 : (Jvm.Cond.instantiable "java/lang/IndexOutOfBoundsException" (6 : Nat)) ∈ wT := List.mem_filter.mpr ⟨List.mem_of_getElem? (i := 146) (by decide +kernel), by decide +kernel⟩
theorem wl147 : (Jvm.Cond.castable "java/lang/IndexOutOfBoundsException" "java/lang/IndexOutOfBoundsException") ∈ lw_tbl := List.mem_of_getElem? (i := 147) (by decide +kernel)
theorem wl148 : (Jvm.Cond.declares ({ cls := "java/lang/RuntimeException", name := "<init>", desc := "()V" } : Jvm.MethodName)) ∈ lw_tbl := List.mem_of_getElem? (i := 148) (by decide +kernel)
theorem wl149 : (Jvm.Cond.declares ({ cls := "java/lang/RuntimeException", name := "<init>", desc := "(Ljava/lang/String;)V" } : Jvm.MethodName)) ∈ lw_tbl := List.mem_of_getElem? (i := 149) (by decide +kernel)
theorem wl150 : (Jvm.Cond.declares ({ cls := "java/lang/Exception", name := "<init>", desc := "()V" } : Jvm.MethodName)) ∈ lw_tbl := List.mem_of_getElem? (i := 150) (by decide +kernel)
theorem wl151 : (Jvm.Cond.declares ({ cls := "java/lang/Exception", name := "<init>", desc := "(Ljava/lang/String;)V" } : Jvm.MethodName)) ∈ lw_tbl := List.mem_of_getElem? (i := 151) (by decide +kernel)
theorem wl152 : (Jvm.Cond.declares ({ cls := "java/lang/Throwable", name := "<init>", desc := "()V" } : Jvm.MethodName)) ∈ lw_tbl := List.mem_of_getElem? (i := 152) (by decide +kernel)
theorem wl153 : (Jvm.Cond.declares ({ cls := "java/lang/Throwable", name := "<init>", desc := "(Ljava/lang/String;)V" } : Jvm.MethodName)) ∈ lw_tbl := List.mem_of_getElem? (i := 153) (by decide +kernel)
theorem wd154 : (Jvm.Cond.selects "java/lang/IndexOutOfBoundsException" ({ cls := "java/lang/Throwable", name := "fillInStackTrace", desc := "(I)Ljava/lang/Throwable;" } : Jvm.MethodName) ({ cls := "java/lang/Throwable", name := "fillInStackTrace", desc := "(I)Ljava/lang/Throwable;" } : Jvm.MethodName)) ∈ wT := List.mem_filter.mpr ⟨List.mem_of_getElem? (i := 154) (by decide +kernel), by decide +kernel⟩
theorem wd155 : (Jvm.Cond.selects "java/lang/IndexOutOfBoundsException" ({ cls := "java/lang/Throwable", name := "fillInStackTrace", desc := "()Ljava/lang/Throwable;" } : Jvm.MethodName) ({ cls := "java/lang/Throwable", name := "fillInStackTrace", desc := "()Ljava/lang/Throwable;" } : Jvm.MethodName)) ∈ wT := List.mem_filter.mpr ⟨List.mem_of_getElem? (i := 155) (by decide +kernel), by decide +kernel⟩
theorem wd156 : (Jvm.Cond.lays "java/lang/IndexOutOfBoundsException" "java/lang/Throwable" "cause" "Ljava/lang/Throwable;") ∈ wT := List.mem_filter.mpr ⟨List.mem_of_getElem? (i := 156) (by decide +kernel), by decide +kernel⟩
theorem wd157 : (Jvm.Cond.lays "java/lang/Throwable" "java/lang/Throwable" "cause" "Ljava/lang/Throwable;") ∈ wT := List.mem_filter.mpr ⟨List.mem_of_getElem? (i := 157) (by decide +kernel), by decide +kernel⟩
theorem wd158 : (Jvm.Cond.lays "java/lang/IndexOutOfBoundsException" "java/lang/Throwable" "stackTrace" "[Ljava/lang/StackTraceElement;") ∈ wT := List.mem_filter.mpr ⟨List.mem_of_getElem? (i := 158) (by decide +kernel), by decide +kernel⟩
theorem wd159 : (Jvm.Cond.lays "java/lang/Throwable" "java/lang/Throwable" "stackTrace" "[Ljava/lang/StackTraceElement;") ∈ wT := List.mem_filter.mpr ⟨List.mem_of_getElem? (i := 159) (by decide +kernel), by decide +kernel⟩
theorem wd160 : (Jvm.Cond.lays "java/lang/IndexOutOfBoundsException" "java/lang/Throwable" "suppressedExceptions" "Ljava/util/List;") ∈ wT := List.mem_filter.mpr ⟨List.mem_of_getElem? (i := 160) (by decide +kernel), by decide +kernel⟩
theorem wd161 : (Jvm.Cond.lays "java/lang/Throwable" "java/lang/Throwable" "suppressedExceptions" "Ljava/util/List;") ∈ wT := List.mem_filter.mpr ⟨List.mem_of_getElem? (i := 161) (by decide +kernel), by decide +kernel⟩
theorem wd162 : (Jvm.Cond.lays "java/lang/IndexOutOfBoundsException" "java/lang/Throwable" "detailMessage" "Ljava/lang/String;") ∈ wT := List.mem_filter.mpr ⟨List.mem_of_getElem? (i := 162) (by decide +kernel), by decide +kernel⟩
theorem wd163 : (Jvm.Cond.lays "java/lang/Throwable" "java/lang/Throwable" "detailMessage" "Ljava/lang/String;") ∈ wT := List.mem_filter.mpr ⟨List.mem_of_getElem? (i := 163) (by decide +kernel), by decide +kernel⟩
theorem wd164 : (Jvm.Cond.lays "java/lang/IndexOutOfBoundsException" "java/lang/Throwable" "backtrace" "Ljava/lang/Object;") ∈ wT := List.mem_filter.mpr ⟨List.mem_of_getElem? (i := 164) (by decide +kernel), by decide +kernel⟩
theorem wd165 : (Jvm.Cond.lays "java/lang/Throwable" "java/lang/Throwable" "backtrace" "Ljava/lang/Object;") ∈ wT := List.mem_filter.mpr ⟨List.mem_of_getElem? (i := 165) (by decide +kernel), by decide +kernel⟩
theorem wd166 : (Jvm.Cond.fieldLink "java/lang/Throwable" (198 : Nat) "java/lang/Throwable" "backtrace" "Ljava/lang/Object;") ∈ wT := List.mem_filter.mpr ⟨List.mem_of_getElem? (i := 166) (by decide +kernel), by decide +kernel⟩
theorem wd167 : (Jvm.Cond.superclass "java/lang/Throwable" "java/lang/Object") ∈ wT := List.mem_filter.mpr ⟨List.mem_of_getElem? (i := 167) (by decide +kernel), by decide +kernel⟩
theorem wd168 : (Jvm.Cond.instanceMethod ({ cls := "java/lang/Throwable", name := "<init>", desc := "()V" } : Jvm.MethodName)) ∈ wT := List.mem_filter.mpr ⟨List.mem_of_getElem? (i := 168) (by decide +kernel), by decide +kernel⟩
theorem wd169 : (Jvm.Cond.code ({ cls := "java/lang/Throwable", name := "<init>", desc := "()V" } : Jvm.MethodName) prog_17_method_1_code (1 : Nat) (Option.none : Option Jvm.ClassFile.FieldType)) ∈ wT := List.mem_filter.mpr ⟨List.mem_of_getElem? (i := 169) (by decide +kernel), by decide +kernel⟩
theorem wd170 : (Jvm.Cond.methodLink "java/lang/Throwable" (1 : Nat) ({ cls := "java/lang/Object", name := "<init>", desc := "()V" } : Jvm.MethodName)) ∈ wT := List.mem_filter.mpr ⟨List.mem_of_getElem? (i := 170) (by decide +kernel), by decide +kernel⟩
theorem wd171 : (Jvm.Cond.fieldLink "java/lang/Throwable" (13 : Nat) "java/lang/Throwable" "UNASSIGNED_STACK" "[Ljava/lang/StackTraceElement;") ∈ wT := List.mem_filter.mpr ⟨List.mem_of_getElem? (i := 171) (by decide +kernel), by decide +kernel⟩
theorem wl172 : (Jvm.Cond.laysStatic "java/lang/Throwable" "UNASSIGNED_STACK" "[Ljava/lang/StackTraceElement;") ∈ lw_tbl := List.mem_of_getElem? (i := 172) (by decide +kernel)
theorem wd173 : (Jvm.Cond.fieldLink "java/lang/Throwable" (20 : Nat) "java/lang/Throwable" "SUPPRESSED_SENTINEL" "Ljava/util/List;") ∈ wT := List.mem_filter.mpr ⟨List.mem_of_getElem? (i := 173) (by decide +kernel), by decide +kernel⟩
theorem wl174 : (Jvm.Cond.laysStatic "java/lang/Throwable" "SUPPRESSED_SENTINEL" "Ljava/util/List;") ∈ lw_tbl := List.mem_of_getElem? (i := 174) (by decide +kernel)
theorem wd175 : (Jvm.Cond.methodLink "java/lang/Throwable" (27 : Nat) ({ cls := "java/lang/Throwable", name := "fillInStackTrace", desc := "()Ljava/lang/Throwable;" } : Jvm.MethodName)) ∈ wT := List.mem_filter.mpr ⟨List.mem_of_getElem? (i := 175) (by decide +kernel), by decide +kernel⟩
theorem wd176 : (Jvm.Cond.instanceMethod ({ cls := "java/lang/Throwable", name := "fillInStackTrace", desc := "()Ljava/lang/Throwable;" } : Jvm.MethodName)) ∈ wT := List.mem_filter.mpr ⟨List.mem_of_getElem? (i := 176) (by decide +kernel), by decide +kernel⟩
theorem wd177 : (Jvm.Cond.sameMethod "java/lang/Throwable" "java/lang/Throwable" "fillInStackTrace" "()Ljava/lang/Throwable;") ∈ wT := List.mem_filter.mpr ⟨List.mem_of_getElem? (i := 177) (by decide +kernel), by decide +kernel⟩
theorem wd178 : (Jvm.Cond.selects "java/lang/ArithmeticException" ({ cls := "java/lang/Throwable", name := "fillInStackTrace", desc := "()Ljava/lang/Throwable;" } : Jvm.MethodName) ({ cls := "java/lang/Throwable", name := "fillInStackTrace", desc := "()Ljava/lang/Throwable;" } : Jvm.MethodName)) ∈ wT := List.mem_filter.mpr ⟨List.mem_of_getElem? (i := 178) (by decide +kernel), by decide +kernel⟩
theorem wd179 : (Jvm.Cond.selects "java/lang/IllegalArgumentException" ({ cls := "java/lang/Throwable", name := "fillInStackTrace", desc := "()Ljava/lang/Throwable;" } : Jvm.MethodName) ({ cls := "java/lang/Throwable", name := "fillInStackTrace", desc := "()Ljava/lang/Throwable;" } : Jvm.MethodName)) ∈ wT := List.mem_filter.mpr ⟨List.mem_of_getElem? (i := 179) (by decide +kernel), by decide +kernel⟩
theorem wd180 : (Jvm.Cond.selects "java/lang/UnsupportedOperationException" ({ cls := "java/lang/Throwable", name := "fillInStackTrace", desc := "()Ljava/lang/Throwable;" } : Jvm.MethodName) ({ cls := "java/lang/Throwable", name := "fillInStackTrace", desc := "()Ljava/lang/Throwable;" } : Jvm.MethodName)) ∈ wT := List.mem_filter.mpr ⟨List.mem_of_getElem? (i := 180) (by decide +kernel), by decide +kernel⟩
theorem wd181 : (Jvm.Cond.codeSync ({ cls := "java/lang/Throwable", name := "fillInStackTrace", desc := "()Ljava/lang/Throwable;" } : Jvm.MethodName) prog_17_method_18_code (1 : Nat) (Option.some (Jvm.ClassFile.FieldType.object "java/lang/Throwable"))) ∈ wT := List.mem_filter.mpr ⟨List.mem_of_getElem? (i := 181) (by decide +kernel), by decide +kernel⟩
theorem wd182 : (Jvm.Cond.methodLink "java/lang/Throwable" (202 : Nat) ({ cls := "java/lang/Throwable", name := "fillInStackTrace", desc := "(I)Ljava/lang/Throwable;" } : Jvm.MethodName)) ∈ wT := List.mem_filter.mpr ⟨List.mem_of_getElem? (i := 182) (by decide +kernel), by decide +kernel⟩
theorem wl183 : (Jvm.Cond.privateMethod ({ cls := "java/lang/Throwable", name := "fillInStackTrace", desc := "(I)Ljava/lang/Throwable;" } : Jvm.MethodName)) ∈ lw_tbl := List.mem_of_getElem? (i := 183) (by decide +kernel)
theorem wd184 : (Jvm.Cond.instanceMethod ({ cls := "java/lang/Throwable", name := "fillInStackTrace", desc := "(I)Ljava/lang/Throwable;" } : Jvm.MethodName)) ∈ wT := List.mem_filter.mpr ⟨List.mem_of_getElem? (i := 184) (by decide +kernel), by decide +kernel⟩
theorem wd185 : (Jvm.Cond.instantiable "java/lang/Throwable" (6 : Nat)) ∈ wT := List.mem_filter.mpr ⟨List.mem_of_getElem? (i := 185) (by decide +kernel), by decide +kernel⟩
theorem wd186 : (Jvm.Cond.native ({ cls := "java/lang/Throwable", name := "fillInStackTrace", desc := "(I)Ljava/lang/Throwable;" } : Jvm.MethodName)) ∈ wT := List.mem_filter.mpr ⟨List.mem_of_getElem? (i := 186) (by decide +kernel), by decide +kernel⟩
theorem wl187 : (Jvm.Cond.stringRef "RuleReader" (35 : Nat) "the tape would have more than 4096 bytes") ∈ lw_tbl := List.mem_of_getElem? (i := 187) (by decide +kernel)
theorem wd188 : (Jvm.Cond.methodLink "RuleReader" (37 : Nat) ({ cls := "java/lang/IndexOutOfBoundsException", name := "<init>", desc := "(Ljava/lang/String;)V" } : Jvm.MethodName)) ∈ wT := List.mem_filter.mpr ⟨List.mem_of_getElem? (i := 188) (by decide +kernel), by decide +kernel⟩
theorem wd189 : (Jvm.Cond.instanceMethod ({ cls := "java/lang/IndexOutOfBoundsException", name := "<init>", desc := "(Ljava/lang/String;)V" } : Jvm.MethodName)) ∈ wT := List.mem_filter.mpr ⟨List.mem_of_getElem? (i := 189) (by decide +kernel), by decide +kernel⟩
theorem wd190 : (Jvm.Cond.code ({ cls := "java/lang/IndexOutOfBoundsException", name := "<init>", desc := "(Ljava/lang/String;)V" } : Jvm.MethodName) prog_11_method_2_code (2 : Nat) (Option.none : Option Jvm.ClassFile.FieldType)) ∈ wT := List.mem_filter.mpr ⟨List.mem_of_getElem? (i := 190) (by decide +kernel), by decide +kernel⟩
theorem wd191 : (Jvm.Cond.methodLink "java/lang/IndexOutOfBoundsException" (7 : Nat) ({ cls := "java/lang/RuntimeException", name := "<init>", desc := "(Ljava/lang/String;)V" } : Jvm.MethodName)) ∈ wT := List.mem_filter.mpr ⟨List.mem_of_getElem? (i := 191) (by decide +kernel), by decide +kernel⟩
theorem wd192 : (Jvm.Cond.instanceMethod ({ cls := "java/lang/RuntimeException", name := "<init>", desc := "(Ljava/lang/String;)V" } : Jvm.MethodName)) ∈ wT := List.mem_filter.mpr ⟨List.mem_of_getElem? (i := 192) (by decide +kernel), by decide +kernel⟩
theorem wd193 : (Jvm.Cond.code ({ cls := "java/lang/RuntimeException", name := "<init>", desc := "(Ljava/lang/String;)V" } : Jvm.MethodName) prog_14_method_2_code (2 : Nat) (Option.none : Option Jvm.ClassFile.FieldType)) ∈ wT := List.mem_filter.mpr ⟨List.mem_of_getElem? (i := 193) (by decide +kernel), by decide +kernel⟩
theorem wd194 : (Jvm.Cond.methodLink "java/lang/RuntimeException" (7 : Nat) ({ cls := "java/lang/Exception", name := "<init>", desc := "(Ljava/lang/String;)V" } : Jvm.MethodName)) ∈ wT := List.mem_filter.mpr ⟨List.mem_of_getElem? (i := 194) (by decide +kernel), by decide +kernel⟩
theorem wd195 : (Jvm.Cond.instanceMethod ({ cls := "java/lang/Exception", name := "<init>", desc := "(Ljava/lang/String;)V" } : Jvm.MethodName)) ∈ wT := List.mem_filter.mpr ⟨List.mem_of_getElem? (i := 195) (by decide +kernel), by decide +kernel⟩
theorem wd196 : (Jvm.Cond.code ({ cls := "java/lang/Exception", name := "<init>", desc := "(Ljava/lang/String;)V" } : Jvm.MethodName) prog_9_method_2_code (2 : Nat) (Option.none : Option Jvm.ClassFile.FieldType)) ∈ wT := List.mem_filter.mpr ⟨List.mem_of_getElem? (i := 196) (by decide +kernel), by decide +kernel⟩
theorem wd197 : (Jvm.Cond.methodLink "java/lang/Exception" (7 : Nat) ({ cls := "java/lang/Throwable", name := "<init>", desc := "(Ljava/lang/String;)V" } : Jvm.MethodName)) ∈ wT := List.mem_filter.mpr ⟨List.mem_of_getElem? (i := 197) (by decide +kernel), by decide +kernel⟩
theorem wd198 : (Jvm.Cond.instanceMethod ({ cls := "java/lang/Throwable", name := "<init>", desc := "(Ljava/lang/String;)V" } : Jvm.MethodName)) ∈ wT := List.mem_filter.mpr ⟨List.mem_of_getElem? (i := 198) (by decide +kernel), by decide +kernel⟩
theorem wd199 : (Jvm.Cond.code ({ cls := "java/lang/Throwable", name := "<init>", desc := "(Ljava/lang/String;)V" } : Jvm.MethodName) prog_17_method_2_code (2 : Nat) (Option.none : Option Jvm.ClassFile.FieldType)) ∈ wT := List.mem_filter.mpr ⟨List.mem_of_getElem? (i := 199) (by decide +kernel), by decide +kernel⟩
theorem wd201 : (Jvm.Cond.fieldLink "java/lang/Throwable" (31 : Nat) "java/lang/Throwable" "detailMessage" "Ljava/lang/String;") ∈ wT := List.mem_filter.mpr ⟨List.mem_of_getElem? (i := 201) (by decide +kernel), by decide +kernel⟩
theorem wd202 : (Jvm.Cond.fieldLink "java/lang/Throwable" (7 : Nat) "java/lang/Throwable" "cause" "Ljava/lang/Throwable;") ∈ wT := List.mem_filter.mpr ⟨List.mem_of_getElem? (i := 202) (by decide +kernel), by decide +kernel⟩
theorem wd203 : (Jvm.Cond.fieldLink "java/lang/Throwable" (17 : Nat) "java/lang/Throwable" "stackTrace" "[Ljava/lang/StackTraceElement;") ∈ wT := List.mem_filter.mpr ⟨List.mem_of_getElem? (i := 203) (by decide +kernel), by decide +kernel⟩
theorem wd204 : (Jvm.Cond.fieldLink "java/lang/Throwable" (24 : Nat) "java/lang/Throwable" "suppressedExceptions" "Ljava/util/List;") ∈ wT := List.mem_filter.mpr ⟨List.mem_of_getElem? (i := 204) (by decide +kernel), by decide +kernel⟩
theorem wd205 : (Jvm.Cond.soleField "java/lang/Throwable" "backtrace") ∈ wT := List.mem_filter.mpr ⟨List.mem_of_getElem? (i := 205) (by decide +kernel), by decide +kernel⟩
theorem wd206 : (Jvm.Cond.soleField "java/lang/Throwable" "detailMessage") ∈ wT := List.mem_filter.mpr ⟨List.mem_of_getElem? (i := 206) (by decide +kernel), by decide +kernel⟩
theorem wd207 : (Jvm.Cond.soleField "java/lang/Throwable" "cause") ∈ wT := List.mem_filter.mpr ⟨List.mem_of_getElem? (i := 207) (by decide +kernel), by decide +kernel⟩
theorem wd208 : (Jvm.Cond.soleField "java/lang/Throwable" "stackTrace") ∈ wT := List.mem_filter.mpr ⟨List.mem_of_getElem? (i := 208) (by decide +kernel), by decide +kernel⟩
theorem wd209 : (Jvm.Cond.lays "java/lang/IndexOutOfBoundsException" "java/lang/Throwable" "depth" "I") ∈ wT := List.mem_filter.mpr ⟨List.mem_of_getElem? (i := 209) (by decide +kernel), by decide +kernel⟩
theorem wd210 : (Jvm.Cond.soleField "java/lang/Throwable" "depth") ∈ wT := List.mem_filter.mpr ⟨List.mem_of_getElem? (i := 210) (by decide +kernel), by decide +kernel⟩
theorem wd211 : (Jvm.Cond.soleField "java/lang/Throwable" "suppressedExceptions") ∈ wT := List.mem_filter.mpr ⟨List.mem_of_getElem? (i := 211) (by decide +kernel), by decide +kernel⟩
theorem wd212 : (Jvm.Cond.superclass "java/lang/IndexOutOfBoundsException" "java/lang/RuntimeException") ∈ wT := List.mem_filter.mpr ⟨List.mem_of_getElem? (i := 212) (by decide +kernel), by decide +kernel⟩
theorem wd213 : (Jvm.Cond.methodLink "RuleReader" (40 : Nat) ({ cls := "RuleReader$Bytes", name := "appendNumber", desc := "(JI)V" } : Jvm.MethodName)) ∈ wT := List.mem_filter.mpr ⟨List.mem_of_getElem? (i := 213) (by decide +kernel), by decide +kernel⟩
theorem wd214 : (Jvm.Cond.instanceMethod ({ cls := "RuleReader$Bytes", name := "appendNumber", desc := "(JI)V" } : Jvm.MethodName)) ∈ wT := List.mem_filter.mpr ⟨List.mem_of_getElem? (i := 214) (by decide +kernel), by decide +kernel⟩
theorem wd215 : (Jvm.Cond.selects "RuleReader$Bytes" ({ cls := "RuleReader$Bytes", name := "appendNumber", desc := "(JI)V" } : Jvm.MethodName) ({ cls := "RuleReader$Bytes", name := "appendNumber", desc := "(JI)V" } : Jvm.MethodName)) ∈ wT := List.mem_filter.mpr ⟨List.mem_of_getElem? (i := 215) (by decide +kernel), by decide +kernel⟩
theorem wd216 : (Jvm.Cond.code ({ cls := "RuleReader$Bytes", name := "appendNumber", desc := "(JI)V" } : Jvm.MethodName) prog_2_method_7_code (5 : Nat) (Option.none : Option Jvm.ClassFile.FieldType)) ∈ wT := List.mem_filter.mpr ⟨List.mem_of_getElem? (i := 216) (by decide +kernel), by decide +kernel⟩
theorem wd217 : (Jvm.Cond.methodLink "RuleReader$Bytes" (31 : Nat) ({ cls := "java/lang/Math", name := "min", desc := "(II)I" } : Jvm.MethodName)) ∈ wT := List.mem_filter.mpr ⟨List.mem_of_getElem? (i := 217) (by decide +kernel), by decide +kernel⟩
theorem wd218 : (Jvm.Cond.static ({ cls := "java/lang/Math", name := "min", desc := "(II)I" } : Jvm.MethodName)) ∈ wT := List.mem_filter.mpr ⟨List.mem_of_getElem? (i := 218) (by decide +kernel), by decide +kernel⟩
theorem wd219 : (Jvm.Cond.code ({ cls := "java/lang/Math", name := "min", desc := "(II)I" } : Jvm.MethodName) prog_13_method_69_code (2 : Nat) (Option.some Jvm.ClassFile.FieldType.int)) ∈ wT := List.mem_filter.mpr ⟨List.mem_of_getElem? (i := 219) (by decide +kernel), by decide +kernel⟩
theorem wd220 : (Jvm.Cond.methodLink "RuleReader$Bytes" (37 : Nat) ({ cls := "RuleReader$Bytes", name := "append", desc := "(I)V" } : Jvm.MethodName)) ∈ wT := List.mem_filter.mpr ⟨List.mem_of_getElem? (i := 220) (by decide +kernel), by decide +kernel⟩
theorem wd221 : (Jvm.Cond.instanceMethod ({ cls := "RuleReader$Bytes", name := "append", desc := "(I)V" } : Jvm.MethodName)) ∈ wT := List.mem_filter.mpr ⟨List.mem_of_getElem? (i := 221) (by decide +kernel), by decide +kernel⟩
theorem wd222 : (Jvm.Cond.selects "RuleReader$Bytes" ({ cls := "RuleReader$Bytes", name := "append", desc := "(I)V" } : Jvm.MethodName) ({ cls := "RuleReader$Bytes", name := "append", desc := "(I)V" } : Jvm.MethodName)) ∈ wT := List.mem_filter.mpr ⟨List.mem_of_getElem? (i := 222) (by decide +kernel), by decide +kernel⟩
theorem wd223 : (Jvm.Cond.code ({ cls := "RuleReader$Bytes", name := "append", desc := "(I)V" } : Jvm.MethodName) prog_2_method_6_code (2 : Nat) (Option.none : Option Jvm.ClassFile.FieldType)) ∈ wT := List.mem_filter.mpr ⟨List.mem_of_getElem? (i := 223) (by decide +kernel), by decide +kernel⟩
theorem wd224 : (Jvm.Cond.methodLink "RuleReader$Bytes" (19 : Nat) ({ cls := "RuleReader$Bytes", name := "hasRoomFor", desc := "(I)Z" } : Jvm.MethodName)) ∈ wT := List.mem_filter.mpr ⟨List.mem_of_getElem? (i := 224) (by decide +kernel), by decide +kernel⟩
theorem wd225 : (Jvm.Cond.methodLink "RuleReader$Bytes" (23 : Nat) ({ cls := "RuleReader$Bytes", name := "lengthen", desc := "(I)V" } : Jvm.MethodName)) ∈ wT := List.mem_filter.mpr ⟨List.mem_of_getElem? (i := 225) (by decide +kernel), by decide +kernel⟩
theorem wl226 : (Jvm.Cond.privateMethod ({ cls := "RuleReader$Bytes", name := "lengthen", desc := "(I)V" } : Jvm.MethodName)) ∈ lw_tbl := List.mem_of_getElem? (i := 226) (by decide +kernel)
theorem wd227 : (Jvm.Cond.instanceMethod ({ cls := "RuleReader$Bytes", name := "lengthen", desc := "(I)V" } : Jvm.MethodName)) ∈ wT := List.mem_filter.mpr ⟨List.mem_of_getElem? (i := 227) (by decide +kernel), by decide +kernel⟩
theorem wd228 : (Jvm.Cond.code ({ cls := "RuleReader$Bytes", name := "lengthen", desc := "(I)V" } : Jvm.MethodName) prog_2_method_13_code (3 : Nat) (Option.none : Option Jvm.ClassFile.FieldType)) ∈ wT := List.mem_filter.mpr ⟨List.mem_of_getElem? (i := 228) (by decide +kernel), by decide +kernel⟩
theorem wd229 : (Jvm.Cond.methodLink "RuleReader$Bytes" (57 : Nat) ({ cls := "java/lang/Math", name := "max", desc := "(II)I" } : Jvm.MethodName)) ∈ wT := List.mem_filter.mpr ⟨List.mem_of_getElem? (i := 229) (by decide +kernel), by decide +kernel⟩
theorem wd230 : (Jvm.Cond.static ({ cls := "java/lang/Math", name := "max", desc := "(II)I" } : Jvm.MethodName)) ∈ wT := List.mem_filter.mpr ⟨List.mem_of_getElem? (i := 230) (by decide +kernel), by decide +kernel⟩
theorem wd231 : (Jvm.Cond.code ({ cls := "java/lang/Math", name := "max", desc := "(II)I" } : Jvm.MethodName) prog_13_method_65_code (2 : Nat) (Option.some Jvm.ClassFile.FieldType.int)) ∈ wT := List.mem_filter.mpr ⟨List.mem_of_getElem? (i := 231) (by decide +kernel), by decide +kernel⟩
theorem wd232 : (Jvm.Cond.methodLink "RuleReader$Bytes" (60 : Nat) ({ cls := "java/util/Arrays", name := "copyOf", desc := "([BI)[B" } : Jvm.MethodName)) ∈ wT := List.mem_filter.mpr ⟨List.mem_of_getElem? (i := 232) (by decide +kernel), by decide +kernel⟩
theorem wd233 : (Jvm.Cond.static ({ cls := "java/util/Arrays", name := "copyOf", desc := "([BI)[B" } : Jvm.MethodName)) ∈ wT := List.mem_filter.mpr ⟨List.mem_of_getElem? (i := 233) (by decide +kernel), by decide +kernel⟩
theorem wd234 : (Jvm.Cond.code ({ cls := "java/util/Arrays", name := "copyOf", desc := "([BI)[B" } : Jvm.MethodName) prog_19_method_121_code (3 : Nat) (Option.some (Jvm.ClassFile.FieldType.array Jvm.ClassFile.FieldType.byte))) ∈ wT := List.mem_filter.mpr ⟨List.mem_of_getElem? (i := 234) (by decide +kernel), by decide +kernel⟩
theorem wd235 : (Jvm.Cond.methodLink "java/util/Arrays" (310 : Nat) ({ cls := "[B", name := "clone", desc := "()Ljava/lang/Object;" } : Jvm.MethodName)) ∈ wT := List.mem_filter.mpr ⟨List.mem_of_getElem? (i := 235) (by decide +kernel), by decide +kernel⟩
theorem wd236 : (Jvm.Cond.sameMethod "[B" "java/lang/Object" "clone" "()Ljava/lang/Object;") ∈ wT := List.mem_filter.mpr ⟨List.mem_of_getElem? (i := 236) (by decide +kernel), by decide +kernel⟩
theorem wd237 : (Jvm.Cond.native ({ cls := "java/lang/Object", name := "clone", desc := "()Ljava/lang/Object;" } : Jvm.MethodName)) ∈ wT := List.mem_filter.mpr ⟨List.mem_of_getElem? (i := 237) (by decide +kernel), by decide +kernel⟩
theorem wd238 : (Jvm.Cond.instanceMethod ({ cls := "java/lang/Object", name := "clone", desc := "()Ljava/lang/Object;" } : Jvm.MethodName)) ∈ wT := List.mem_filter.mpr ⟨List.mem_of_getElem? (i := 238) (by decide +kernel), by decide +kernel⟩
theorem wd239 : (Jvm.Cond.selects "[B" ({ cls := "[B", name := "clone", desc := "()Ljava/lang/Object;" } : Jvm.MethodName) ({ cls := "java/lang/Object", name := "clone", desc := "()Ljava/lang/Object;" } : Jvm.MethodName)) ∈ wT := List.mem_filter.mpr ⟨List.mem_of_getElem? (i := 239) (by decide +kernel), by decide +kernel⟩
theorem wl240 : (Jvm.Cond.castable "[B" "java/lang/Cloneable") ∈ lw_tbl := List.mem_of_getElem? (i := 240) (by decide +kernel)
theorem wd241 : (Jvm.Cond.classLink "java/util/Arrays" (311 : Nat) "[B") ∈ wT := List.mem_filter.mpr ⟨List.mem_of_getElem? (i := 241) (by decide +kernel), by decide +kernel⟩
theorem wd242 : (Jvm.Cond.methodLink "java/util/Arrays" (304 : Nat) ({ cls := "java/lang/Math", name := "min", desc := "(II)I" } : Jvm.MethodName)) ∈ wT := List.mem_filter.mpr ⟨List.mem_of_getElem? (i := 242) (by decide +kernel), by decide +kernel⟩
theorem wd243 : (Jvm.Cond.methodLink "java/util/Arrays" (150 : Nat) ({ cls := "java/lang/System", name := "arraycopy", desc := "(Ljava/lang/Object;ILjava/lang/Object;II)V" } : Jvm.MethodName)) ∈ wT := List.mem_filter.mpr ⟨List.mem_of_getElem? (i := 243) (by decide +kernel), by decide +kernel⟩
theorem wd244 : (Jvm.Cond.static ({ cls := "java/lang/System", name := "arraycopy", desc := "(Ljava/lang/Object;ILjava/lang/Object;II)V" } : Jvm.MethodName)) ∈ wT := List.mem_filter.mpr ⟨List.mem_of_getElem? (i := 244) (by decide +kernel), by decide +kernel⟩
theorem wd245 : (Jvm.Cond.native ({ cls := "java/lang/System", name := "arraycopy", desc := "(Ljava/lang/Object;ILjava/lang/Object;II)V" } : Jvm.MethodName)) ∈ wT := List.mem_filter.mpr ⟨List.mem_of_getElem? (i := 245) (by decide +kernel), by decide +kernel⟩
theorem wd246 : (Jvm.Cond.methodLink "RuleReader$Bytes" (27 : Nat) ({ cls := "RuleReader$Bytes", name := "set", desc := "(II)V" } : Jvm.MethodName)) ∈ wT := List.mem_filter.mpr ⟨List.mem_of_getElem? (i := 246) (by decide +kernel), by decide +kernel⟩
theorem wl247 : (Jvm.Cond.privateMethod ({ cls := "RuleReader$Bytes", name := "set", desc := "(II)V" } : Jvm.MethodName)) ∈ lw_tbl := List.mem_of_getElem? (i := 247) (by decide +kernel)
theorem wd248 : (Jvm.Cond.instanceMethod ({ cls := "RuleReader$Bytes", name := "set", desc := "(II)V" } : Jvm.MethodName)) ∈ wT := List.mem_filter.mpr ⟨List.mem_of_getElem? (i := 248) (by decide +kernel), by decide +kernel⟩
theorem wd249 : (Jvm.Cond.code ({ cls := "RuleReader$Bytes", name := "set", desc := "(II)V" } : Jvm.MethodName) prog_2_method_12_code (3 : Nat) (Option.none : Option Jvm.ClassFile.FieldType)) ∈ wT := List.mem_filter.mpr ⟨List.mem_of_getElem? (i := 249) (by decide +kernel), by decide +kernel⟩
theorem wd250 : (Jvm.Cond.methodLink "RuleReader" (44 : Nat) ({ cls := "RuleReader$Bytes", name := "size", desc := "()I" } : Jvm.MethodName)) ∈ wT := List.mem_filter.mpr ⟨List.mem_of_getElem? (i := 250) (by decide +kernel), by decide +kernel⟩
theorem wd251 : (Jvm.Cond.instanceMethod ({ cls := "RuleReader$Bytes", name := "size", desc := "()I" } : Jvm.MethodName)) ∈ wT := List.mem_filter.mpr ⟨List.mem_of_getElem? (i := 251) (by decide +kernel), by decide +kernel⟩
theorem wd252 : (Jvm.Cond.selects "RuleReader$Bytes" ({ cls := "RuleReader$Bytes", name := "size", desc := "()I" } : Jvm.MethodName) ({ cls := "RuleReader$Bytes", name := "size", desc := "()I" } : Jvm.MethodName)) ∈ wT := List.mem_filter.mpr ⟨List.mem_of_getElem? (i := 252) (by decide +kernel), by decide +kernel⟩
theorem wd253 : (Jvm.Cond.code ({ cls := "RuleReader$Bytes", name := "size", desc := "()I" } : Jvm.MethodName) prog_2_method_2_code (1 : Nat) (Option.some Jvm.ClassFile.FieldType.int)) ∈ wT := List.mem_filter.mpr ⟨List.mem_of_getElem? (i := 253) (by decide +kernel), by decide +kernel⟩
theorem wd254 : (Jvm.Cond.methodLink "RuleReaderLaw" (68 : Nat) ({ cls := "RuleReaderLaw", name := "end", desc := "(LRuleReader;I[J)I" } : Jvm.MethodName)) ∈ wT := List.mem_filter.mpr ⟨List.mem_of_getElem? (i := 254) (by decide +kernel), by decide +kernel⟩
theorem wd255 : (Jvm.Cond.static ({ cls := "RuleReaderLaw", name := "end", desc := "(LRuleReader;I[J)I" } : Jvm.MethodName)) ∈ wT := List.mem_filter.mpr ⟨List.mem_of_getElem? (i := 255) (by decide +kernel), by decide +kernel⟩
theorem wd256 : (Jvm.Cond.codeWith ({ cls := "RuleReaderLaw", name := "end", desc := "(LRuleReader;I[J)I" } : Jvm.MethodName) method_4_code (4 : Nat) (Option.some Jvm.ClassFile.FieldType.int) [((0 : Nat), (9 : Nat), (12 : Nat), (19 : Nat))]) ∈ wT := List.mem_filter.mpr ⟨List.mem_of_getElem? (i := 256) (by decide +kernel), by decide +kernel⟩
theorem wd257 : (Jvm.Cond.classLink "RuleReaderLaw" (19 : Nat) "java/lang/IllegalArgumentException") ∈ wT := List.mem_filter.mpr ⟨List.mem_of_getElem? (i := 257) (by decide +kernel), by decide +kernel⟩
theorem wd258 : (Jvm.Cond.methodLink "RuleReaderLaw" (15 : Nat) ({ cls := "RuleReader", name := "end", desc := "(I)I" } : Jvm.MethodName)) ∈ wT := List.mem_filter.mpr ⟨List.mem_of_getElem? (i := 258) (by decide +kernel), by decide +kernel⟩
theorem wd259 : (Jvm.Cond.instanceMethod ({ cls := "RuleReader", name := "end", desc := "(I)I" } : Jvm.MethodName)) ∈ wT := List.mem_filter.mpr ⟨List.mem_of_getElem? (i := 259) (by decide +kernel), by decide +kernel⟩
theorem wd260 : (Jvm.Cond.selects "RuleReader" ({ cls := "RuleReader", name := "end", desc := "(I)I" } : Jvm.MethodName) ({ cls := "RuleReader", name := "end", desc := "(I)I" } : Jvm.MethodName)) ∈ wT := List.mem_filter.mpr ⟨List.mem_of_getElem? (i := 260) (by decide +kernel), by decide +kernel⟩
theorem wd261 : (Jvm.Cond.code ({ cls := "RuleReader", name := "end", desc := "(I)I" } : Jvm.MethodName) prog_1_method_3_code (2 : Nat) (Option.some Jvm.ClassFile.FieldType.int)) ∈ wT := List.mem_filter.mpr ⟨List.mem_of_getElem? (i := 261) (by decide +kernel), by decide +kernel⟩
theorem wd262 : (Jvm.Cond.classLink "RuleReader" (48 : Nat) "java/lang/IllegalArgumentException") ∈ wT := List.mem_filter.mpr ⟨List.mem_of_getElem? (i := 262) (by decide +kernel), by decide +kernel⟩
theorem wd263 : (Jvm.Cond.instantiable "java/lang/IllegalArgumentException" (6 : Nat)) ∈ wT := List.mem_filter.mpr ⟨List.mem_of_getElem? (i := 263) (by decide +kernel), by decide +kernel⟩
theorem wl264 : (Jvm.Cond.castable "java/lang/IllegalArgumentException" "java/lang/IllegalArgumentException") ∈ lw_tbl := List.mem_of_getElem? (i := 264) (by decide +kernel)
theorem wd265 : (Jvm.Cond.selects "java/lang/IllegalArgumentException" ({ cls := "java/lang/Throwable", name := "fillInStackTrace", desc := "(I)Ljava/lang/Throwable;" } : Jvm.MethodName) ({ cls := "java/lang/Throwable", name := "fillInStackTrace", desc := "(I)Ljava/lang/Throwable;" } : Jvm.MethodName)) ∈ wT := List.mem_filter.mpr ⟨List.mem_of_getElem? (i := 265) (by decide +kernel), by decide +kernel⟩
theorem wd266 : (Jvm.Cond.lays "java/lang/IllegalArgumentException" "java/lang/Throwable" "cause" "Ljava/lang/Throwable;") ∈ wT := List.mem_filter.mpr ⟨List.mem_of_getElem? (i := 266) (by decide +kernel), by decide +kernel⟩
theorem wd267 : (Jvm.Cond.lays "java/lang/IllegalArgumentException" "java/lang/Throwable" "stackTrace" "[Ljava/lang/StackTraceElement;") ∈ wT := List.mem_filter.mpr ⟨List.mem_of_getElem? (i := 267) (by decide +kernel), by decide +kernel⟩
theorem wd268 : (Jvm.Cond.lays "java/lang/IllegalArgumentException" "java/lang/Throwable" "suppressedExceptions" "Ljava/util/List;") ∈ wT := List.mem_filter.mpr ⟨List.mem_of_getElem? (i := 268) (by decide +kernel), by decide +kernel⟩
theorem wd269 : (Jvm.Cond.lays "java/lang/IllegalArgumentException" "java/lang/Throwable" "detailMessage" "Ljava/lang/String;") ∈ wT := List.mem_filter.mpr ⟨List.mem_of_getElem? (i := 269) (by decide +kernel), by decide +kernel⟩
theorem wd270 : (Jvm.Cond.lays "java/lang/IllegalArgumentException" "java/lang/Throwable" "backtrace" "Ljava/lang/Object;") ∈ wT := List.mem_filter.mpr ⟨List.mem_of_getElem? (i := 270) (by decide +kernel), by decide +kernel⟩
theorem wl271 : (Jvm.Cond.stringRef "RuleReader" (50 : Nat) "the tape has not so many bytes") ∈ lw_tbl := List.mem_of_getElem? (i := 271) (by decide +kernel)
theorem wd272 : (Jvm.Cond.methodLink "RuleReader" (52 : Nat) ({ cls := "java/lang/IllegalArgumentException", name := "<init>", desc := "(Ljava/lang/String;)V" } : Jvm.MethodName)) ∈ wT := List.mem_filter.mpr ⟨List.mem_of_getElem? (i := 272) (by decide +kernel), by decide +kernel⟩
theorem wd273 : (Jvm.Cond.instanceMethod ({ cls := "java/lang/IllegalArgumentException", name := "<init>", desc := "(Ljava/lang/String;)V" } : Jvm.MethodName)) ∈ wT := List.mem_filter.mpr ⟨List.mem_of_getElem? (i := 273) (by decide +kernel), by decide +kernel⟩
theorem wd274 : (Jvm.Cond.code ({ cls := "java/lang/IllegalArgumentException", name := "<init>", desc := "(Ljava/lang/String;)V" } : Jvm.MethodName) prog_10_method_2_code (2 : Nat) (Option.none : Option Jvm.ClassFile.FieldType)) ∈ wT := List.mem_filter.mpr ⟨List.mem_of_getElem? (i := 274) (by decide +kernel), by decide +kernel⟩
theorem wd275 : (Jvm.Cond.methodLink "java/lang/IllegalArgumentException" (7 : Nat) ({ cls := "java/lang/RuntimeException", name := "<init>", desc := "(Ljava/lang/String;)V" } : Jvm.MethodName)) ∈ wT := List.mem_filter.mpr ⟨List.mem_of_getElem? (i := 275) (by decide +kernel), by decide +kernel⟩
theorem wd276 : (Jvm.Cond.lays "java/lang/IllegalArgumentException" "java/lang/Throwable" "depth" "I") ∈ wT := List.mem_filter.mpr ⟨List.mem_of_getElem? (i := 276) (by decide +kernel), by decide +kernel⟩
theorem wd277 : (Jvm.Cond.superclass "java/lang/IllegalArgumentException" "java/lang/RuntimeException") ∈ wT := List.mem_filter.mpr ⟨List.mem_of_getElem? (i := 277) (by decide +kernel), by decide +kernel⟩
theorem wd278 : (Jvm.Cond.methodLink "RuleReader" (53 : Nat) ({ cls := "RuleReader$Bytes", name := "cut", desc := "(I)V" } : Jvm.MethodName)) ∈ wT := List.mem_filter.mpr ⟨List.mem_of_getElem? (i := 278) (by decide +kernel), by decide +kernel⟩
theorem wd279 : (Jvm.Cond.instanceMethod ({ cls := "RuleReader$Bytes", name := "cut", desc := "(I)V" } : Jvm.MethodName)) ∈ wT := List.mem_filter.mpr ⟨List.mem_of_getElem? (i := 279) (by decide +kernel), by decide +kernel⟩
theorem wd280 : (Jvm.Cond.selects "RuleReader$Bytes" ({ cls := "RuleReader$Bytes", name := "cut", desc := "(I)V" } : Jvm.MethodName) ({ cls := "RuleReader$Bytes", name := "cut", desc := "(I)V" } : Jvm.MethodName)) ∈ wT := List.mem_filter.mpr ⟨List.mem_of_getElem? (i := 280) (by decide +kernel), by decide +kernel⟩
theorem wd281 : (Jvm.Cond.code ({ cls := "RuleReader$Bytes", name := "cut", desc := "(I)V" } : Jvm.MethodName) prog_2_method_5_code (2 : Nat) (Option.none : Option Jvm.ClassFile.FieldType)) ∈ wT := List.mem_filter.mpr ⟨List.mem_of_getElem? (i := 281) (by decide +kernel), by decide +kernel⟩
theorem wd282 : (Jvm.Cond.methodLink "RuleReaderLaw" (72 : Nat) ({ cls := "RuleReaderLaw", name := "read", desc := "(LRuleReader;Z[J)I" } : Jvm.MethodName)) ∈ wT := List.mem_filter.mpr ⟨List.mem_of_getElem? (i := 282) (by decide +kernel), by decide +kernel⟩
theorem wd283 : (Jvm.Cond.static ({ cls := "RuleReaderLaw", name := "read", desc := "(LRuleReader;Z[J)I" } : Jvm.MethodName)) ∈ wT := List.mem_filter.mpr ⟨List.mem_of_getElem? (i := 283) (by decide +kernel), by decide +kernel⟩
theorem wd284 : (Jvm.Cond.codeWith ({ cls := "RuleReaderLaw", name := "read", desc := "(LRuleReader;Z[J)I" } : Jvm.MethodName) method_5_code (4 : Nat) (Option.some Jvm.ClassFile.FieldType.int) [((0 : Nat), (9 : Nat), (12 : Nat), (25 : Nat))]) ∈ wT := List.mem_filter.mpr ⟨List.mem_of_getElem? (i := 284) (by decide +kernel), by decide +kernel⟩
theorem wd285 : (Jvm.Cond.classLink "RuleReaderLaw" (25 : Nat) "java/lang/UnsupportedOperationException") ∈ wT := List.mem_filter.mpr ⟨List.mem_of_getElem? (i := 285) (by decide +kernel), by decide +kernel⟩
theorem wd286 : (Jvm.Cond.methodLink "RuleReaderLaw" (21 : Nat) ({ cls := "RuleReader", name := "read", desc := "(Z)I" } : Jvm.MethodName)) ∈ wT := List.mem_filter.mpr ⟨List.mem_of_getElem? (i := 286) (by decide +kernel), by decide +kernel⟩
theorem wd287 : (Jvm.Cond.instanceMethod ({ cls := "RuleReader", name := "read", desc := "(Z)I" } : Jvm.MethodName)) ∈ wT := List.mem_filter.mpr ⟨List.mem_of_getElem? (i := 287) (by decide +kernel), by decide +kernel⟩
theorem wd288 : (Jvm.Cond.selects "RuleReader" ({ cls := "RuleReader", name := "read", desc := "(Z)I" } : Jvm.MethodName) ({ cls := "RuleReader", name := "read", desc := "(Z)I" } : Jvm.MethodName)) ∈ wT := List.mem_filter.mpr ⟨List.mem_of_getElem? (i := 288) (by decide +kernel), by decide +kernel⟩
theorem wd289 : (Jvm.Cond.code ({ cls := "RuleReader", name := "read", desc := "(Z)I" } : Jvm.MethodName) prog_1_method_4_code (3 : Nat) (Option.some Jvm.ClassFile.FieldType.int)) ∈ wT := List.mem_filter.mpr ⟨List.mem_of_getElem? (i := 289) (by decide +kernel), by decide +kernel⟩
theorem wd290 : (Jvm.Cond.methodLink "RuleReader" (57 : Nat) ({ cls := "RuleReader$Nodes", name := "layOut", desc := "(LRuleReader$Bytes;Z)Z" } : Jvm.MethodName)) ∈ wT := List.mem_filter.mpr ⟨List.mem_of_getElem? (i := 290) (by decide +kernel), by decide +kernel⟩
theorem wd291 : (Jvm.Cond.instanceMethod ({ cls := "RuleReader$Nodes", name := "layOut", desc := "(LRuleReader$Bytes;Z)Z" } : Jvm.MethodName)) ∈ wT := List.mem_filter.mpr ⟨List.mem_of_getElem? (i := 291) (by decide +kernel), by decide +kernel⟩
theorem wd292 : (Jvm.Cond.selects "RuleReader$Nodes" ({ cls := "RuleReader$Nodes", name := "layOut", desc := "(LRuleReader$Bytes;Z)Z" } : Jvm.MethodName) ({ cls := "RuleReader$Nodes", name := "layOut", desc := "(LRuleReader$Bytes;Z)Z" } : Jvm.MethodName)) ∈ wT := List.mem_filter.mpr ⟨List.mem_of_getElem? (i := 292) (by decide +kernel), by decide +kernel⟩
theorem wd293 : (Jvm.Cond.code ({ cls := "RuleReader$Nodes", name := "layOut", desc := "(LRuleReader$Bytes;Z)Z" } : Jvm.MethodName) prog_4_method_5_code (4 : Nat) (Option.some Jvm.ClassFile.FieldType.boolean)) ∈ wT := List.mem_filter.mpr ⟨List.mem_of_getElem? (i := 293) (by decide +kernel), by decide +kernel⟩
theorem wd294 : (Jvm.Cond.methodLink "RuleReader$Nodes" (41 : Nat) ({ cls := "RuleReader$Bytes", name := "become", desc := "(LRuleReader$Bytes;)V" } : Jvm.MethodName)) ∈ wT := List.mem_filter.mpr ⟨List.mem_of_getElem? (i := 294) (by decide +kernel), by decide +kernel⟩
theorem wd295 : (Jvm.Cond.instanceMethod ({ cls := "RuleReader$Bytes", name := "become", desc := "(LRuleReader$Bytes;)V" } : Jvm.MethodName)) ∈ wT := List.mem_filter.mpr ⟨List.mem_of_getElem? (i := 295) (by decide +kernel), by decide +kernel⟩
theorem wd296 : (Jvm.Cond.selects "RuleReader$Bytes" ({ cls := "RuleReader$Bytes", name := "become", desc := "(LRuleReader$Bytes;)V" } : Jvm.MethodName) ({ cls := "RuleReader$Bytes", name := "become", desc := "(LRuleReader$Bytes;)V" } : Jvm.MethodName)) ∈ wT := List.mem_filter.mpr ⟨List.mem_of_getElem? (i := 296) (by decide +kernel), by decide +kernel⟩
theorem wd297 : (Jvm.Cond.code ({ cls := "RuleReader$Bytes", name := "become", desc := "(LRuleReader$Bytes;)V" } : Jvm.MethodName) prog_2_method_10_code (2 : Nat) (Option.none : Option Jvm.ClassFile.FieldType)) ∈ wT := List.mem_filter.mpr ⟨List.mem_of_getElem? (i := 297) (by decide +kernel), by decide +kernel⟩
theorem wd298 : (Jvm.Cond.methodLink "RuleReader$Bytes" (44 : Nat) ({ cls := "RuleReader$Bytes", name := "cut", desc := "(I)V" } : Jvm.MethodName)) ∈ wT := List.mem_filter.mpr ⟨List.mem_of_getElem? (i := 298) (by decide +kernel), by decide +kernel⟩
theorem wd299 : (Jvm.Cond.methodLink "RuleReader$Bytes" (47 : Nat) ({ cls := "RuleReader$Bytes", name := "putBehind", desc := "(LRuleReader$Bytes;)V" } : Jvm.MethodName)) ∈ wT := List.mem_filter.mpr ⟨List.mem_of_getElem? (i := 299) (by decide +kernel), by decide +kernel⟩
theorem wd300 : (Jvm.Cond.instanceMethod ({ cls := "RuleReader$Bytes", name := "putBehind", desc := "(LRuleReader$Bytes;)V" } : Jvm.MethodName)) ∈ wT := List.mem_filter.mpr ⟨List.mem_of_getElem? (i := 300) (by decide +kernel), by decide +kernel⟩
theorem wd301 : (Jvm.Cond.selects "RuleReader$Bytes" ({ cls := "RuleReader$Bytes", name := "putBehind", desc := "(LRuleReader$Bytes;)V" } : Jvm.MethodName) ({ cls := "RuleReader$Bytes", name := "putBehind", desc := "(LRuleReader$Bytes;)V" } : Jvm.MethodName)) ∈ wT := List.mem_filter.mpr ⟨List.mem_of_getElem? (i := 301) (by decide +kernel), by decide +kernel⟩
theorem wd302 : (Jvm.Cond.code ({ cls := "RuleReader$Bytes", name := "putBehind", desc := "(LRuleReader$Bytes;)V" } : Jvm.MethodName) prog_2_method_8_code (3 : Nat) (Option.none : Option Jvm.ClassFile.FieldType)) ∈ wT := List.mem_filter.mpr ⟨List.mem_of_getElem? (i := 302) (by decide +kernel), by decide +kernel⟩
theorem wd303 : (Jvm.Cond.methodLink "RuleReader$Bytes" (40 : Nat) ({ cls := "RuleReader$Bytes", name := "layOver", desc := "([BII)V" } : Jvm.MethodName)) ∈ wT := List.mem_filter.mpr ⟨List.mem_of_getElem? (i := 303) (by decide +kernel), by decide +kernel⟩
theorem wl304 : (Jvm.Cond.privateMethod ({ cls := "RuleReader$Bytes", name := "layOver", desc := "([BII)V" } : Jvm.MethodName)) ∈ lw_tbl := List.mem_of_getElem? (i := 304) (by decide +kernel)
theorem wd305 : (Jvm.Cond.instanceMethod ({ cls := "RuleReader$Bytes", name := "layOver", desc := "([BII)V" } : Jvm.MethodName)) ∈ wT := List.mem_filter.mpr ⟨List.mem_of_getElem? (i := 305) (by decide +kernel), by decide +kernel⟩
theorem wd306 : (Jvm.Cond.code ({ cls := "RuleReader$Bytes", name := "layOver", desc := "([BII)V" } : Jvm.MethodName) prog_2_method_11_code (4 : Nat) (Option.none : Option Jvm.ClassFile.FieldType)) ∈ wT := List.mem_filter.mpr ⟨List.mem_of_getElem? (i := 306) (by decide +kernel), by decide +kernel⟩
theorem wd307 : (Jvm.Cond.methodLink "RuleReader$Bytes" (51 : Nat) ({ cls := "java/lang/System", name := "arraycopy", desc := "(Ljava/lang/Object;ILjava/lang/Object;II)V" } : Jvm.MethodName)) ∈ wT := List.mem_filter.mpr ⟨List.mem_of_getElem? (i := 307) (by decide +kernel), by decide +kernel⟩
theorem wd308 : (Jvm.Cond.methodLink "RuleReader$Nodes" (45 : Nat) ({ cls := "RuleReader$Bytes", name := "size", desc := "()I" } : Jvm.MethodName)) ∈ wT := List.mem_filter.mpr ⟨List.mem_of_getElem? (i := 308) (by decide +kernel), by decide +kernel⟩
theorem wd309 : (Jvm.Cond.methodLink "RuleReader$Nodes" (49 : Nat) ({ cls := "RuleReader$Nodes", name := "layOutValue", desc := "(IIII)I" } : Jvm.MethodName)) ∈ wT := List.mem_filter.mpr ⟨List.mem_of_getElem? (i := 309) (by decide +kernel), by decide +kernel⟩
theorem wl310 : (Jvm.Cond.privateMethod ({ cls := "RuleReader$Nodes", name := "layOutValue", desc := "(IIII)I" } : Jvm.MethodName)) ∈ lw_tbl := List.mem_of_getElem? (i := 310) (by decide +kernel)
theorem wd311 : (Jvm.Cond.instanceMethod ({ cls := "RuleReader$Nodes", name := "layOutValue", desc := "(IIII)I" } : Jvm.MethodName)) ∈ wT := List.mem_filter.mpr ⟨List.mem_of_getElem? (i := 311) (by decide +kernel), by decide +kernel⟩
theorem wd312 : (Jvm.Cond.code ({ cls := "RuleReader$Nodes", name := "layOutValue", desc := "(IIII)I" } : Jvm.MethodName) prog_4_method_12_code (8 : Nat) (Option.some Jvm.ClassFile.FieldType.int)) ∈ wT := List.mem_filter.mpr ⟨List.mem_of_getElem? (i := 312) (by decide +kernel), by decide +kernel⟩
theorem wd313 : (Jvm.Cond.methodLink "RuleReader$Nodes" (82 : Nat) ({ cls := "RuleReader$Header", name := "decode", desc := "(LRuleReader$Bytes;IIZ)Z" } : Jvm.MethodName)) ∈ wT := List.mem_filter.mpr ⟨List.mem_of_getElem? (i := 313) (by decide +kernel), by decide +kernel⟩
theorem wd314 : (Jvm.Cond.instanceMethod ({ cls := "RuleReader$Header", name := "decode", desc := "(LRuleReader$Bytes;IIZ)Z" } : Jvm.MethodName)) ∈ wT := List.mem_filter.mpr ⟨List.mem_of_getElem? (i := 314) (by decide +kernel), by decide +kernel⟩
theorem wd315 : (Jvm.Cond.selects "RuleReader$Header" ({ cls := "RuleReader$Header", name := "decode", desc := "(LRuleReader$Bytes;IIZ)Z" } : Jvm.MethodName) ({ cls := "RuleReader$Header", name := "decode", desc := "(LRuleReader$Bytes;IIZ)Z" } : Jvm.MethodName)) ∈ wT := List.mem_filter.mpr ⟨List.mem_of_getElem? (i := 315) (by decide +kernel), by decide +kernel⟩
theorem wd316 : (Jvm.Cond.code ({ cls := "RuleReader$Header", name := "decode", desc := "(LRuleReader$Bytes;IIZ)Z" } : Jvm.MethodName) prog_3_method_2_code (7 : Nat) (Option.some Jvm.ClassFile.FieldType.boolean)) ∈ wT := List.mem_filter.mpr ⟨List.mem_of_getElem? (i := 316) (by decide +kernel), by decide +kernel⟩
theorem wd317 : (Jvm.Cond.methodLink "RuleReader$Header" (31 : Nat) ({ cls := "RuleReader$Header", name := "decodeIdentifier", desc := "(LRuleReader$Bytes;II)I" } : Jvm.MethodName)) ∈ wT := List.mem_filter.mpr ⟨List.mem_of_getElem? (i := 317) (by decide +kernel), by decide +kernel⟩
theorem wl318 : (Jvm.Cond.privateMethod ({ cls := "RuleReader$Header", name := "decodeIdentifier", desc := "(LRuleReader$Bytes;II)I" } : Jvm.MethodName)) ∈ lw_tbl := List.mem_of_getElem? (i := 318) (by decide +kernel)
theorem wd319 : (Jvm.Cond.instanceMethod ({ cls := "RuleReader$Header", name := "decodeIdentifier", desc := "(LRuleReader$Bytes;II)I" } : Jvm.MethodName)) ∈ wT := List.mem_filter.mpr ⟨List.mem_of_getElem? (i := 319) (by decide +kernel), by decide +kernel⟩
theorem wd320 : (Jvm.Cond.code ({ cls := "RuleReader$Header", name := "decodeIdentifier", desc := "(LRuleReader$Bytes;II)I" } : Jvm.MethodName) prog_3_method_3_code (5 : Nat) (Option.some Jvm.ClassFile.FieldType.int)) ∈ wT := List.mem_filter.mpr ⟨List.mem_of_getElem? (i := 320) (by decide +kernel), by decide +kernel⟩
theorem wd321 : (Jvm.Cond.methodLink "RuleReader$Header" (35 : Nat) ({ cls := "RuleReader$Bytes", name := "at", desc := "(I)I" } : Jvm.MethodName)) ∈ wT := List.mem_filter.mpr ⟨List.mem_of_getElem? (i := 321) (by decide +kernel), by decide +kernel⟩
theorem wd322 : (Jvm.Cond.instanceMethod ({ cls := "RuleReader$Bytes", name := "at", desc := "(I)I" } : Jvm.MethodName)) ∈ wT := List.mem_filter.mpr ⟨List.mem_of_getElem? (i := 322) (by decide +kernel), by decide +kernel⟩
theorem wd323 : (Jvm.Cond.selects "RuleReader$Bytes" ({ cls := "RuleReader$Bytes", name := "at", desc := "(I)I" } : Jvm.MethodName) ({ cls := "RuleReader$Bytes", name := "at", desc := "(I)I" } : Jvm.MethodName)) ∈ wT := List.mem_filter.mpr ⟨List.mem_of_getElem? (i := 323) (by decide +kernel), by decide +kernel⟩
theorem wd324 : (Jvm.Cond.code ({ cls := "RuleReader$Bytes", name := "at", desc := "(I)I" } : Jvm.MethodName) prog_2_method_4_code (2 : Nat) (Option.some Jvm.ClassFile.FieldType.int)) ∈ wT := List.mem_filter.mpr ⟨List.mem_of_getElem? (i := 324) (by decide +kernel), by decide +kernel⟩
theorem wd325 : (Jvm.Cond.methodLink "RuleReader$Header" (45 : Nat) ({ cls := "RuleReader$Header", name := "decodeLongNumber", desc := "(LRuleReader$Bytes;II)I" } : Jvm.MethodName)) ∈ wT := List.mem_filter.mpr ⟨List.mem_of_getElem? (i := 325) (by decide +kernel), by decide +kernel⟩
theorem wl326 : (Jvm.Cond.privateMethod ({ cls := "RuleReader$Header", name := "decodeLongNumber", desc := "(LRuleReader$Bytes;II)I" } : Jvm.MethodName)) ∈ lw_tbl := List.mem_of_getElem? (i := 326) (by decide +kernel)
theorem wd327 : (Jvm.Cond.instanceMethod ({ cls := "RuleReader$Header", name := "decodeLongNumber", desc := "(LRuleReader$Bytes;II)I" } : Jvm.MethodName)) ∈ wT := List.mem_filter.mpr ⟨List.mem_of_getElem? (i := 327) (by decide +kernel), by decide +kernel⟩
theorem wd328 : (Jvm.Cond.code ({ cls := "RuleReader$Header", name := "decodeLongNumber", desc := "(LRuleReader$Bytes;II)I" } : Jvm.MethodName) prog_3_method_4_code (8 : Nat) (Option.some Jvm.ClassFile.FieldType.int)) ∈ wT := List.mem_filter.mpr ⟨List.mem_of_getElem? (i := 328) (by decide +kernel), by decide +kernel⟩
theorem wd329 : (Jvm.Cond.constantLong "RuleReader$Header" (48 : Nat) (2147483647 : Int64)) ∈ wT := List.mem_filter.mpr ⟨List.mem_of_getElem? (i := 329) (by decide +kernel), by decide +kernel⟩
theorem wd330 : (Jvm.Cond.constantLong "RuleReader$Header" (50 : Nat) (128 : Int64)) ∈ wT := List.mem_filter.mpr ⟨List.mem_of_getElem? (i := 330) (by decide +kernel), by decide +kernel⟩
theorem wd331 : (Jvm.Cond.constantLong "RuleReader$Header" (52 : Nat) (31 : Int64)) ∈ wT := List.mem_filter.mpr ⟨List.mem_of_getElem? (i := 331) (by decide +kernel), by decide +kernel⟩
theorem wd332 : (Jvm.Cond.methodLink "RuleReader$Header" (41 : Nat) ({ cls := "RuleReader$Header", name := "decodeLongLength", desc := "(LRuleReader$Bytes;IIZ)Z" } : Jvm.MethodName)) ∈ wT := List.mem_filter.mpr ⟨List.mem_of_getElem? (i := 332) (by decide +kernel), by decide +kernel⟩
theorem wl333 : (Jvm.Cond.privateMethod ({ cls := "RuleReader$Header", name := "decodeLongLength", desc := "(LRuleReader$Bytes;IIZ)Z" } : Jvm.MethodName)) ∈ lw_tbl := List.mem_of_getElem? (i := 333) (by decide +kernel)
theorem wd334 : (Jvm.Cond.instanceMethod ({ cls := "RuleReader$Header", name := "decodeLongLength", desc := "(LRuleReader$Bytes;IIZ)Z" } : Jvm.MethodName)) ∈ wT := List.mem_filter.mpr ⟨List.mem_of_getElem? (i := 334) (by decide +kernel), by decide +kernel⟩
theorem wd335 : (Jvm.Cond.code ({ cls := "RuleReader$Header", name := "decodeLongLength", desc := "(LRuleReader$Bytes;IIZ)Z" } : Jvm.MethodName) prog_3_method_5_code (7 : Nat) (Option.some Jvm.ClassFile.FieldType.boolean)) ∈ wT := List.mem_filter.mpr ⟨List.mem_of_getElem? (i := 335) (by decide +kernel), by decide +kernel⟩
theorem wd336 : (Jvm.Cond.methodLink "RuleReader$Nodes" (86 : Nat) ({ cls := "RuleReader$Nodes", name := "enter", desc := "(II)I" } : Jvm.MethodName)) ∈ wT := List.mem_filter.mpr ⟨List.mem_of_getElem? (i := 336) (by decide +kernel), by decide +kernel⟩
theorem wl337 : (Jvm.Cond.privateMethod ({ cls := "RuleReader$Nodes", name := "enter", desc := "(II)I" } : Jvm.MethodName)) ∈ lw_tbl := List.mem_of_getElem? (i := 337) (by decide +kernel)
theorem wd338 : (Jvm.Cond.instanceMethod ({ cls := "RuleReader$Nodes", name := "enter", desc := "(II)I" } : Jvm.MethodName)) ∈ wT := List.mem_filter.mpr ⟨List.mem_of_getElem? (i := 338) (by decide +kernel), by decide +kernel⟩
theorem wd339 : (Jvm.Cond.code ({ cls := "RuleReader$Nodes", name := "enter", desc := "(II)I" } : Jvm.MethodName) prog_4_method_15_code (4 : Nat) (Option.some Jvm.ClassFile.FieldType.int)) ∈ wT := List.mem_filter.mpr ⟨List.mem_of_getElem? (i := 339) (by decide +kernel), by decide +kernel⟩
theorem wd340 : (Jvm.Cond.methodLink "RuleReader$Nodes" (61 : Nat) ({ cls := "java/lang/Math", name := "min", desc := "(II)I" } : Jvm.MethodName)) ∈ wT := List.mem_filter.mpr ⟨List.mem_of_getElem? (i := 340) (by decide +kernel), by decide +kernel⟩
theorem wd341 : (Jvm.Cond.methodLink "RuleReader$Nodes" (111 : Nat) ({ cls := "java/util/Arrays", name := "copyOf", desc := "([II)[I" } : Jvm.MethodName)) ∈ wT := List.mem_filter.mpr ⟨List.mem_of_getElem? (i := 341) (by decide +kernel), by decide +kernel⟩
theorem wd342 : (Jvm.Cond.static ({ cls := "java/util/Arrays", name := "copyOf", desc := "([II)[I" } : Jvm.MethodName)) ∈ wT := List.mem_filter.mpr ⟨List.mem_of_getElem? (i := 342) (by decide +kernel), by decide +kernel⟩
theorem wd343 : (Jvm.Cond.code ({ cls := "java/util/Arrays", name := "copyOf", desc := "([II)[I" } : Jvm.MethodName) prog_19_method_123_code (3 : Nat) (Option.some (Jvm.ClassFile.FieldType.array Jvm.ClassFile.FieldType.int))) ∈ wT := List.mem_filter.mpr ⟨List.mem_of_getElem? (i := 343) (by decide +kernel), by decide +kernel⟩
theorem wd344 : (Jvm.Cond.methodLink "java/util/Arrays" (316 : Nat) ({ cls := "[I", name := "clone", desc := "()Ljava/lang/Object;" } : Jvm.MethodName)) ∈ wT := List.mem_filter.mpr ⟨List.mem_of_getElem? (i := 344) (by decide +kernel), by decide +kernel⟩
theorem wd345 : (Jvm.Cond.sameMethod "[I" "java/lang/Object" "clone" "()Ljava/lang/Object;") ∈ wT := List.mem_filter.mpr ⟨List.mem_of_getElem? (i := 345) (by decide +kernel), by decide +kernel⟩
theorem wd346 : (Jvm.Cond.selects "[I" ({ cls := "[I", name := "clone", desc := "()Ljava/lang/Object;" } : Jvm.MethodName) ({ cls := "java/lang/Object", name := "clone", desc := "()Ljava/lang/Object;" } : Jvm.MethodName)) ∈ wT := List.mem_filter.mpr ⟨List.mem_of_getElem? (i := 346) (by decide +kernel), by decide +kernel⟩
theorem wl347 : (Jvm.Cond.castable "[I" "java/lang/Cloneable") ∈ lw_tbl := List.mem_of_getElem? (i := 347) (by decide +kernel)
theorem wd348 : (Jvm.Cond.classLink "java/util/Arrays" (317 : Nat) "[I") ∈ wT := List.mem_filter.mpr ⟨List.mem_of_getElem? (i := 348) (by decide +kernel), by decide +kernel⟩
theorem wd349 : (Jvm.Cond.methodLink "RuleReader$Nodes" (98 : Nat) ({ cls := "RuleReader$Nodes", name := "put", desc := "(III)V" } : Jvm.MethodName)) ∈ wT := List.mem_filter.mpr ⟨List.mem_of_getElem? (i := 349) (by decide +kernel), by decide +kernel⟩
theorem wl350 : (Jvm.Cond.privateMethod ({ cls := "RuleReader$Nodes", name := "put", desc := "(III)V" } : Jvm.MethodName)) ∈ lw_tbl := List.mem_of_getElem? (i := 350) (by decide +kernel)
theorem wd351 : (Jvm.Cond.instanceMethod ({ cls := "RuleReader$Nodes", name := "put", desc := "(III)V" } : Jvm.MethodName)) ∈ wT := List.mem_filter.mpr ⟨List.mem_of_getElem? (i := 351) (by decide +kernel), by decide +kernel⟩
theorem wd352 : (Jvm.Cond.code ({ cls := "RuleReader$Nodes", name := "put", desc := "(III)V" } : Jvm.MethodName) prog_4_method_11_code (5 : Nat) (Option.none : Option Jvm.ClassFile.FieldType)) ∈ wT := List.mem_filter.mpr ⟨List.mem_of_getElem? (i := 352) (by decide +kernel), by decide +kernel⟩
theorem wd353 : (Jvm.Cond.methodLink "RuleReader$Nodes" (37 : Nat) ({ cls := "RuleReader$Nodes", name := "indexOf", desc := "(II)I" } : Jvm.MethodName)) ∈ wT := List.mem_filter.mpr ⟨List.mem_of_getElem? (i := 353) (by decide +kernel), by decide +kernel⟩
theorem wl354 : (Jvm.Cond.privateMethod ({ cls := "RuleReader$Nodes", name := "indexOf", desc := "(II)I" } : Jvm.MethodName)) ∈ lw_tbl := List.mem_of_getElem? (i := 354) (by decide +kernel)
theorem wd355 : (Jvm.Cond.instanceMethod ({ cls := "RuleReader$Nodes", name := "indexOf", desc := "(II)I" } : Jvm.MethodName)) ∈ wT := List.mem_filter.mpr ⟨List.mem_of_getElem? (i := 355) (by decide +kernel), by decide +kernel⟩
theorem wd356 : (Jvm.Cond.code ({ cls := "RuleReader$Nodes", name := "indexOf", desc := "(II)I" } : Jvm.MethodName) prog_4_method_10_code (3 : Nat) (Option.some Jvm.ClassFile.FieldType.int)) ∈ wT := List.mem_filter.mpr ⟨List.mem_of_getElem? (i := 356) (by decide +kernel), by decide +kernel⟩
theorem wd357 : (Jvm.Cond.methodLink "RuleReader$Nodes" (78 : Nat) ({ cls := "RuleReader$Nodes", name := "has", desc := "(I)Z" } : Jvm.MethodName)) ∈ wT := List.mem_filter.mpr ⟨List.mem_of_getElem? (i := 357) (by decide +kernel), by decide +kernel⟩
theorem wd358 : (Jvm.Cond.instanceMethod ({ cls := "RuleReader$Nodes", name := "has", desc := "(I)Z" } : Jvm.MethodName)) ∈ wT := List.mem_filter.mpr ⟨List.mem_of_getElem? (i := 358) (by decide +kernel), by decide +kernel⟩
theorem wd359 : (Jvm.Cond.selects "RuleReader$Nodes" ({ cls := "RuleReader$Nodes", name := "has", desc := "(I)Z" } : Jvm.MethodName) ({ cls := "RuleReader$Nodes", name := "has", desc := "(I)Z" } : Jvm.MethodName)) ∈ wT := List.mem_filter.mpr ⟨List.mem_of_getElem? (i := 359) (by decide +kernel), by decide +kernel⟩
theorem wd360 : (Jvm.Cond.code ({ cls := "RuleReader$Nodes", name := "has", desc := "(I)Z" } : Jvm.MethodName) prog_4_method_3_code (2 : Nat) (Option.some Jvm.ClassFile.FieldType.boolean)) ∈ wT := List.mem_filter.mpr ⟨List.mem_of_getElem? (i := 360) (by decide +kernel), by decide +kernel⟩
theorem wd361 : (Jvm.Cond.methodLink "RuleReader$Nodes" (53 : Nat) ({ cls := "RuleReader$Nodes", name := "get", desc := "(II)I" } : Jvm.MethodName)) ∈ wT := List.mem_filter.mpr ⟨List.mem_of_getElem? (i := 361) (by decide +kernel), by decide +kernel⟩
theorem wd362 : (Jvm.Cond.instanceMethod ({ cls := "RuleReader$Nodes", name := "get", desc := "(II)I" } : Jvm.MethodName)) ∈ wT := List.mem_filter.mpr ⟨List.mem_of_getElem? (i := 362) (by decide +kernel), by decide +kernel⟩
theorem wd363 : (Jvm.Cond.selects "RuleReader$Nodes" ({ cls := "RuleReader$Nodes", name := "get", desc := "(II)I" } : Jvm.MethodName) ({ cls := "RuleReader$Nodes", name := "get", desc := "(II)I" } : Jvm.MethodName)) ∈ wT := List.mem_filter.mpr ⟨List.mem_of_getElem? (i := 363) (by decide +kernel), by decide +kernel⟩
theorem wd364 : (Jvm.Cond.code ({ cls := "RuleReader$Nodes", name := "get", desc := "(II)I" } : Jvm.MethodName) prog_4_method_4_code (4 : Nat) (Option.some Jvm.ClassFile.FieldType.int)) ∈ wT := List.mem_filter.mpr ⟨List.mem_of_getElem? (i := 364) (by decide +kernel), by decide +kernel⟩
theorem wd365 : (Jvm.Cond.methodLink "RuleReader$Nodes" (95 : Nat) ({ cls := "RuleReader$Nodes", name := "layOutUpToZeros", desc := "(IIII)I" } : Jvm.MethodName)) ∈ wT := List.mem_filter.mpr ⟨List.mem_of_getElem? (i := 365) (by decide +kernel), by decide +kernel⟩
theorem wl366 : (Jvm.Cond.privateMethod ({ cls := "RuleReader$Nodes", name := "layOutUpToZeros", desc := "(IIII)I" } : Jvm.MethodName)) ∈ lw_tbl := List.mem_of_getElem? (i := 366) (by decide +kernel)
theorem wd367 : (Jvm.Cond.instanceMethod ({ cls := "RuleReader$Nodes", name := "layOutUpToZeros", desc := "(IIII)I" } : Jvm.MethodName)) ∈ wT := List.mem_filter.mpr ⟨List.mem_of_getElem? (i := 367) (by decide +kernel), by decide +kernel⟩
theorem wd368 : (Jvm.Cond.code ({ cls := "RuleReader$Nodes", name := "layOutUpToZeros", desc := "(IIII)I" } : Jvm.MethodName) prog_4_method_14_code (7 : Nat) (Option.some Jvm.ClassFile.FieldType.int)) ∈ wT := List.mem_filter.mpr ⟨List.mem_of_getElem? (i := 368) (by decide +kernel), by decide +kernel⟩
theorem wd369 : (Jvm.Cond.methodLink "RuleReader$Nodes" (74 : Nat) ({ cls := "RuleReader$Bytes", name := "at", desc := "(I)I" } : Jvm.MethodName)) ∈ wT := List.mem_filter.mpr ⟨List.mem_of_getElem? (i := 369) (by decide +kernel), by decide +kernel⟩
theorem wd370 : (Jvm.Cond.methodLink "RuleReader$Nodes" (107 : Nat) ({ cls := "RuleReader$Nodes", name := "layOutUpTo", desc := "(IIII)Z" } : Jvm.MethodName)) ∈ wT := List.mem_filter.mpr ⟨List.mem_of_getElem? (i := 370) (by decide +kernel), by decide +kernel⟩
theorem wl371 : (Jvm.Cond.privateMethod ({ cls := "RuleReader$Nodes", name := "layOutUpTo", desc := "(IIII)Z" } : Jvm.MethodName)) ∈ lw_tbl := List.mem_of_getElem? (i := 371) (by decide +kernel)
theorem wd372 : (Jvm.Cond.instanceMethod ({ cls := "RuleReader$Nodes", name := "layOutUpTo", desc := "(IIII)Z" } : Jvm.MethodName)) ∈ wT := List.mem_filter.mpr ⟨List.mem_of_getElem? (i := 372) (by decide +kernel), by decide +kernel⟩
theorem wd373 : (Jvm.Cond.code ({ cls := "RuleReader$Nodes", name := "layOutUpTo", desc := "(IIII)Z" } : Jvm.MethodName) prog_4_method_13_code (7 : Nat) (Option.some Jvm.ClassFile.FieldType.boolean)) ∈ wT := List.mem_filter.mpr ⟨List.mem_of_getElem? (i := 373) (by decide +kernel), by decide +kernel⟩
theorem wd374 : (Jvm.Cond.classLink "RuleReader" (61 : Nat) "java/lang/UnsupportedOperationException") ∈ wT := List.mem_filter.mpr ⟨List.mem_of_getElem? (i := 374) (by decide +kernel), by decide +kernel⟩
theorem wd375 : (Jvm.Cond.instantiable "java/lang/UnsupportedOperationException" (6 : Nat)) ∈ wT := List.mem_filter.mpr ⟨List.mem_of_getElem? (i := 375) (by decide +kernel), by decide +kernel⟩
theorem wl376 : (Jvm.Cond.castable "java/lang/UnsupportedOperationException" "java/lang/UnsupportedOperationException") ∈ lw_tbl := List.mem_of_getElem? (i := 376) (by decide +kernel)
theorem wd377 : (Jvm.Cond.selects "java/lang/UnsupportedOperationException" ({ cls := "java/lang/Throwable", name := "fillInStackTrace", desc := "(I)Ljava/lang/Throwable;" } : Jvm.MethodName) ({ cls := "java/lang/Throwable", name := "fillInStackTrace", desc := "(I)Ljava/lang/Throwable;" } : Jvm.MethodName)) ∈ wT := List.mem_filter.mpr ⟨List.mem_of_getElem? (i := 377) (by decide +kernel), by decide +kernel⟩
theorem wd378 : (Jvm.Cond.lays "java/lang/UnsupportedOperationException" "java/lang/Throwable" "cause" "Ljava/lang/Throwable;") ∈ wT := List.mem_filter.mpr ⟨List.mem_of_getElem? (i := 378) (by decide +kernel), by decide +kernel⟩
theorem wd379 : (Jvm.Cond.lays "java/lang/UnsupportedOperationException" "java/lang/Throwable" "stackTrace" "[Ljava/lang/StackTraceElement;") ∈ wT := List.mem_filter.mpr ⟨List.mem_of_getElem? (i := 379) (by decide +kernel), by decide +kernel⟩
theorem wd380 : (Jvm.Cond.lays "java/lang/UnsupportedOperationException" "java/lang/Throwable" "suppressedExceptions" "Ljava/util/List;") ∈ wT := List.mem_filter.mpr ⟨List.mem_of_getElem? (i := 380) (by decide +kernel), by decide +kernel⟩
theorem wd381 : (Jvm.Cond.lays "java/lang/UnsupportedOperationException" "java/lang/Throwable" "detailMessage" "Ljava/lang/String;") ∈ wT := List.mem_filter.mpr ⟨List.mem_of_getElem? (i := 381) (by decide +kernel), by decide +kernel⟩
theorem wd382 : (Jvm.Cond.lays "java/lang/UnsupportedOperationException" "java/lang/Throwable" "backtrace" "Ljava/lang/Object;") ∈ wT := List.mem_filter.mpr ⟨List.mem_of_getElem? (i := 382) (by decide +kernel), by decide +kernel⟩
theorem wl383 : (Jvm.Cond.stringRef "RuleReader" (63 : Nat) "the tape is not just one value") ∈ lw_tbl := List.mem_of_getElem? (i := 383) (by decide +kernel)
theorem wd384 : (Jvm.Cond.methodLink "RuleReader" (65 : Nat) ({ cls := "java/lang/UnsupportedOperationException", name := "<init>", desc := "(Ljava/lang/String;)V" } : Jvm.MethodName)) ∈ wT := List.mem_filter.mpr ⟨List.mem_of_getElem? (i := 384) (by decide +kernel), by decide +kernel⟩
theorem wd385 : (Jvm.Cond.instanceMethod ({ cls := "java/lang/UnsupportedOperationException", name := "<init>", desc := "(Ljava/lang/String;)V" } : Jvm.MethodName)) ∈ wT := List.mem_filter.mpr ⟨List.mem_of_getElem? (i := 385) (by decide +kernel), by decide +kernel⟩
theorem wd386 : (Jvm.Cond.code ({ cls := "java/lang/UnsupportedOperationException", name := "<init>", desc := "(Ljava/lang/String;)V" } : Jvm.MethodName) prog_18_method_2_code (2 : Nat) (Option.none : Option Jvm.ClassFile.FieldType)) ∈ wT := List.mem_filter.mpr ⟨List.mem_of_getElem? (i := 386) (by decide +kernel), by decide +kernel⟩
theorem wd387 : (Jvm.Cond.methodLink "java/lang/UnsupportedOperationException" (7 : Nat) ({ cls := "java/lang/RuntimeException", name := "<init>", desc := "(Ljava/lang/String;)V" } : Jvm.MethodName)) ∈ wT := List.mem_filter.mpr ⟨List.mem_of_getElem? (i := 387) (by decide +kernel), by decide +kernel⟩
theorem wd388 : (Jvm.Cond.lays "java/lang/UnsupportedOperationException" "java/lang/Throwable" "depth" "I") ∈ wT := List.mem_filter.mpr ⟨List.mem_of_getElem? (i := 388) (by decide +kernel), by decide +kernel⟩
theorem wd389 : (Jvm.Cond.superclass "java/lang/UnsupportedOperationException" "java/lang/RuntimeException") ∈ wT := List.mem_filter.mpr ⟨List.mem_of_getElem? (i := 389) (by decide +kernel), by decide +kernel⟩
theorem wd390 : (Jvm.Cond.methodLink "RuleReader" (66 : Nat) ({ cls := "RuleReader$Nodes", name := "size", desc := "()I" } : Jvm.MethodName)) ∈ wT := List.mem_filter.mpr ⟨List.mem_of_getElem? (i := 390) (by decide +kernel), by decide +kernel⟩
theorem wd391 : (Jvm.Cond.instanceMethod ({ cls := "RuleReader$Nodes", name := "size", desc := "()I" } : Jvm.MethodName)) ∈ wT := List.mem_filter.mpr ⟨List.mem_of_getElem? (i := 391) (by decide +kernel), by decide +kernel⟩
theorem wd392 : (Jvm.Cond.selects "RuleReader$Nodes" ({ cls := "RuleReader$Nodes", name := "size", desc := "()I" } : Jvm.MethodName) ({ cls := "RuleReader$Nodes", name := "size", desc := "()I" } : Jvm.MethodName)) ∈ wT := List.mem_filter.mpr ⟨List.mem_of_getElem? (i := 392) (by decide +kernel), by decide +kernel⟩
theorem wd393 : (Jvm.Cond.code ({ cls := "RuleReader$Nodes", name := "size", desc := "()I" } : Jvm.MethodName) prog_4_method_2_code (1 : Nat) (Option.some Jvm.ClassFile.FieldType.int)) ∈ wT := List.mem_filter.mpr ⟨List.mem_of_getElem? (i := 393) (by decide +kernel), by decide +kernel⟩
theorem wd394 : (Jvm.Cond.methodLink "RuleReaderLaw" (76 : Nat) ({ cls := "RuleReaderLaw", name := "node", desc := "(LRuleReader;II[J)I" } : Jvm.MethodName)) ∈ wT := List.mem_filter.mpr ⟨List.mem_of_getElem? (i := 394) (by decide +kernel), by decide +kernel⟩
theorem wd395 : (Jvm.Cond.static ({ cls := "RuleReaderLaw", name := "node", desc := "(LRuleReader;II[J)I" } : Jvm.MethodName)) ∈ wT := List.mem_filter.mpr ⟨List.mem_of_getElem? (i := 395) (by decide +kernel), by decide +kernel⟩
theorem wd396 : (Jvm.Cond.codeWith ({ cls := "RuleReaderLaw", name := "node", desc := "(LRuleReader;II[J)I" } : Jvm.MethodName) method_6_code (5 : Nat) (Option.some Jvm.ClassFile.FieldType.int) [((0 : Nat), (10 : Nat), (13 : Nat), (19 : Nat))]) ∈ wT := List.mem_filter.mpr ⟨List.mem_of_getElem? (i := 396) (by decide +kernel), by decide +kernel⟩
theorem wd397 : (Jvm.Cond.methodLink "RuleReaderLaw" (27 : Nat) ({ cls := "RuleReader", name := "node", desc := "(II)I" } : Jvm.MethodName)) ∈ wT := List.mem_filter.mpr ⟨List.mem_of_getElem? (i := 397) (by decide +kernel), by decide +kernel⟩
theorem wd398 : (Jvm.Cond.instanceMethod ({ cls := "RuleReader", name := "node", desc := "(II)I" } : Jvm.MethodName)) ∈ wT := List.mem_filter.mpr ⟨List.mem_of_getElem? (i := 398) (by decide +kernel), by decide +kernel⟩
theorem wd399 : (Jvm.Cond.selects "RuleReader" ({ cls := "RuleReader", name := "node", desc := "(II)I" } : Jvm.MethodName) ({ cls := "RuleReader", name := "node", desc := "(II)I" } : Jvm.MethodName)) ∈ wT := List.mem_filter.mpr ⟨List.mem_of_getElem? (i := 399) (by decide +kernel), by decide +kernel⟩
theorem wd400 : (Jvm.Cond.code ({ cls := "RuleReader", name := "node", desc := "(II)I" } : Jvm.MethodName) prog_1_method_5_code (3 : Nat) (Option.some Jvm.ClassFile.FieldType.int)) ∈ wT := List.mem_filter.mpr ⟨List.mem_of_getElem? (i := 400) (by decide +kernel), by decide +kernel⟩
theorem wd401 : (Jvm.Cond.methodLink "RuleReader" (67 : Nat) ({ cls := "RuleReader$Nodes", name := "has", desc := "(I)Z" } : Jvm.MethodName)) ∈ wT := List.mem_filter.mpr ⟨List.mem_of_getElem? (i := 401) (by decide +kernel), by decide +kernel⟩
theorem wl402 : (Jvm.Cond.stringRef "RuleReader" (70 : Nat) "there is no such node") ∈ lw_tbl := List.mem_of_getElem? (i := 402) (by decide +kernel)
theorem wl403 : (Jvm.Cond.stringRef "RuleReader" (72 : Nat) "what is 0 to 7") ∈ lw_tbl := List.mem_of_getElem? (i := 403) (by decide +kernel)
theorem wd404 : (Jvm.Cond.methodLink "RuleReader" (74 : Nat) ({ cls := "RuleReader$Nodes", name := "get", desc := "(II)I" } : Jvm.MethodName)) ∈ wT := List.mem_filter.mpr ⟨List.mem_of_getElem? (i := 404) (by decide +kernel), by decide +kernel⟩
theorem wd405 : (Jvm.Cond.methodLink "RuleReaderLaw" (80 : Nat) ({ cls := "RuleReaderLaw", name := "number", desc := "(LRuleReader;I[J)I" } : Jvm.MethodName)) ∈ wT := List.mem_filter.mpr ⟨List.mem_of_getElem? (i := 405) (by decide +kernel), by decide +kernel⟩
theorem wd406 : (Jvm.Cond.static ({ cls := "RuleReaderLaw", name := "number", desc := "(LRuleReader;I[J)I" } : Jvm.MethodName)) ∈ wT := List.mem_filter.mpr ⟨List.mem_of_getElem? (i := 406) (by decide +kernel), by decide +kernel⟩
theorem wd407 : (Jvm.Cond.codeWith ({ cls := "RuleReaderLaw", name := "number", desc := "(LRuleReader;I[J)I" } : Jvm.MethodName) method_7_code (4 : Nat) (Option.some Jvm.ClassFile.FieldType.int) [((0 : Nat), (8 : Nat), (11 : Nat), (19 : Nat)), ((0 : Nat), (8 : Nat), (14 : Nat), (25 : Nat)), ((0 : Nat), (8 : Nat), (17 : Nat), (35 : Nat))]) ∈ wT := List.mem_filter.mpr ⟨List.mem_of_getElem? (i := 407) (by decide +kernel), by decide +kernel⟩
theorem wd408 : (Jvm.Cond.classLink "RuleReaderLaw" (35 : Nat) "java/lang/ArithmeticException") ∈ wT := List.mem_filter.mpr ⟨List.mem_of_getElem? (i := 408) (by decide +kernel), by decide +kernel⟩
theorem wd409 : (Jvm.Cond.methodLink "RuleReaderLaw" (31 : Nat) ({ cls := "RuleReader", name := "number", desc := "(I)J" } : Jvm.MethodName)) ∈ wT := List.mem_filter.mpr ⟨List.mem_of_getElem? (i := 409) (by decide +kernel), by decide +kernel⟩
theorem wd410 : (Jvm.Cond.instanceMethod ({ cls := "RuleReader", name := "number", desc := "(I)J" } : Jvm.MethodName)) ∈ wT := List.mem_filter.mpr ⟨List.mem_of_getElem? (i := 410) (by decide +kernel), by decide +kernel⟩
theorem wd411 : (Jvm.Cond.selects "RuleReader" ({ cls := "RuleReader", name := "number", desc := "(I)J" } : Jvm.MethodName) ({ cls := "RuleReader", name := "number", desc := "(I)J" } : Jvm.MethodName)) ∈ wT := List.mem_filter.mpr ⟨List.mem_of_getElem? (i := 411) (by decide +kernel), by decide +kernel⟩
theorem wd412 : (Jvm.Cond.code ({ cls := "RuleReader", name := "number", desc := "(I)J" } : Jvm.MethodName) prog_1_method_6_code (2 : Nat) (Option.some Jvm.ClassFile.FieldType.long)) ∈ wT := List.mem_filter.mpr ⟨List.mem_of_getElem? (i := 412) (by decide +kernel), by decide +kernel⟩
theorem wl413 : (Jvm.Cond.stringRef "RuleReader" (78 : Nat) "the node is constructed") ∈ lw_tbl := List.mem_of_getElem? (i := 413) (by decide +kernel)
theorem wd414 : (Jvm.Cond.methodLink "RuleReader" (80 : Nat) ({ cls := "RuleReader$Nodes", name := "holdsNumber", desc := "(I)Z" } : Jvm.MethodName)) ∈ wT := List.mem_filter.mpr ⟨List.mem_of_getElem? (i := 414) (by decide +kernel), by decide +kernel⟩
theorem wd415 : (Jvm.Cond.instanceMethod ({ cls := "RuleReader$Nodes", name := "holdsNumber", desc := "(I)Z" } : Jvm.MethodName)) ∈ wT := List.mem_filter.mpr ⟨List.mem_of_getElem? (i := 415) (by decide +kernel), by decide +kernel⟩
theorem wd416 : (Jvm.Cond.selects "RuleReader$Nodes" ({ cls := "RuleReader$Nodes", name := "holdsNumber", desc := "(I)Z" } : Jvm.MethodName) ({ cls := "RuleReader$Nodes", name := "holdsNumber", desc := "(I)Z" } : Jvm.MethodName)) ∈ wT := List.mem_filter.mpr ⟨List.mem_of_getElem? (i := 416) (by decide +kernel), by decide +kernel⟩
theorem wd417 : (Jvm.Cond.code ({ cls := "RuleReader$Nodes", name := "holdsNumber", desc := "(I)Z" } : Jvm.MethodName) prog_4_method_6_code (4 : Nat) (Option.some Jvm.ClassFile.FieldType.boolean)) ∈ wT := List.mem_filter.mpr ⟨List.mem_of_getElem? (i := 417) (by decide +kernel), by decide +kernel⟩
theorem wd418 : (Jvm.Cond.methodLink "RuleReader$Nodes" (56 : Nat) ({ cls := "RuleReader$Nodes", name := "contentsAt", desc := "(II)I" } : Jvm.MethodName)) ∈ wT := List.mem_filter.mpr ⟨List.mem_of_getElem? (i := 418) (by decide +kernel), by decide +kernel⟩
theorem wl419 : (Jvm.Cond.privateMethod ({ cls := "RuleReader$Nodes", name := "contentsAt", desc := "(II)I" } : Jvm.MethodName)) ∈ lw_tbl := List.mem_of_getElem? (i := 419) (by decide +kernel)
theorem wd420 : (Jvm.Cond.instanceMethod ({ cls := "RuleReader$Nodes", name := "contentsAt", desc := "(II)I" } : Jvm.MethodName)) ∈ wT := List.mem_filter.mpr ⟨List.mem_of_getElem? (i := 420) (by decide +kernel), by decide +kernel⟩
theorem wd421 : (Jvm.Cond.code ({ cls := "RuleReader$Nodes", name := "contentsAt", desc := "(II)I" } : Jvm.MethodName) prog_4_method_9_code (3 : Nat) (Option.some Jvm.ClassFile.FieldType.int)) ∈ wT := List.mem_filter.mpr ⟨List.mem_of_getElem? (i := 421) (by decide +kernel), by decide +kernel⟩
theorem wd422 : (Jvm.Cond.classLink "RuleReader" (83 : Nat) "java/lang/ArithmeticException") ∈ wT := List.mem_filter.mpr ⟨List.mem_of_getElem? (i := 422) (by decide +kernel), by decide +kernel⟩
theorem wd423 : (Jvm.Cond.instantiable "java/lang/ArithmeticException" (6 : Nat)) ∈ wT := List.mem_filter.mpr ⟨List.mem_of_getElem? (i := 423) (by decide +kernel), by decide +kernel⟩
theorem wl424 : (Jvm.Cond.castable "java/lang/ArithmeticException" "java/lang/ArithmeticException") ∈ lw_tbl := List.mem_of_getElem? (i := 424) (by decide +kernel)
theorem wd425 : (Jvm.Cond.selects "java/lang/ArithmeticException" ({ cls := "java/lang/Throwable", name := "fillInStackTrace", desc := "(I)Ljava/lang/Throwable;" } : Jvm.MethodName) ({ cls := "java/lang/Throwable", name := "fillInStackTrace", desc := "(I)Ljava/lang/Throwable;" } : Jvm.MethodName)) ∈ wT := List.mem_filter.mpr ⟨List.mem_of_getElem? (i := 425) (by decide +kernel), by decide +kernel⟩
theorem wd426 : (Jvm.Cond.lays "java/lang/ArithmeticException" "java/lang/Throwable" "cause" "Ljava/lang/Throwable;") ∈ wT := List.mem_filter.mpr ⟨List.mem_of_getElem? (i := 426) (by decide +kernel), by decide +kernel⟩
theorem wd427 : (Jvm.Cond.lays "java/lang/ArithmeticException" "java/lang/Throwable" "stackTrace" "[Ljava/lang/StackTraceElement;") ∈ wT := List.mem_filter.mpr ⟨List.mem_of_getElem? (i := 427) (by decide +kernel), by decide +kernel⟩
theorem wd428 : (Jvm.Cond.lays "java/lang/ArithmeticException" "java/lang/Throwable" "suppressedExceptions" "Ljava/util/List;") ∈ wT := List.mem_filter.mpr ⟨List.mem_of_getElem? (i := 428) (by decide +kernel), by decide +kernel⟩
theorem wd429 : (Jvm.Cond.lays "java/lang/ArithmeticException" "java/lang/Throwable" "detailMessage" "Ljava/lang/String;") ∈ wT := List.mem_filter.mpr ⟨List.mem_of_getElem? (i := 429) (by decide +kernel), by decide +kernel⟩
theorem wd430 : (Jvm.Cond.lays "java/lang/ArithmeticException" "java/lang/Throwable" "backtrace" "Ljava/lang/Object;") ∈ wT := List.mem_filter.mpr ⟨List.mem_of_getElem? (i := 430) (by decide +kernel), by decide +kernel⟩
theorem wl431 : (Jvm.Cond.stringRef "RuleReader" (85 : Nat) "the contents are no number of 1 to 8 bytes, or not the shortest") ∈ lw_tbl := List.mem_of_getElem? (i := 431) (by decide +kernel)
theorem wd432 : (Jvm.Cond.methodLink "RuleReader" (87 : Nat) ({ cls := "java/lang/ArithmeticException", name := "<init>", desc := "(Ljava/lang/String;)V" } : Jvm.MethodName)) ∈ wT := List.mem_filter.mpr ⟨List.mem_of_getElem? (i := 432) (by decide +kernel), by decide +kernel⟩
theorem wd433 : (Jvm.Cond.instanceMethod ({ cls := "java/lang/ArithmeticException", name := "<init>", desc := "(Ljava/lang/String;)V" } : Jvm.MethodName)) ∈ wT := List.mem_filter.mpr ⟨List.mem_of_getElem? (i := 433) (by decide +kernel), by decide +kernel⟩
theorem wd434 : (Jvm.Cond.code ({ cls := "java/lang/ArithmeticException", name := "<init>", desc := "(Ljava/lang/String;)V" } : Jvm.MethodName) prog_7_method_2_code (2 : Nat) (Option.none : Option Jvm.ClassFile.FieldType)) ∈ wT := List.mem_filter.mpr ⟨List.mem_of_getElem? (i := 434) (by decide +kernel), by decide +kernel⟩
theorem wd435 : (Jvm.Cond.methodLink "java/lang/ArithmeticException" (7 : Nat) ({ cls := "java/lang/RuntimeException", name := "<init>", desc := "(Ljava/lang/String;)V" } : Jvm.MethodName)) ∈ wT := List.mem_filter.mpr ⟨List.mem_of_getElem? (i := 435) (by decide +kernel), by decide +kernel⟩
theorem wd436 : (Jvm.Cond.lays "java/lang/ArithmeticException" "java/lang/Throwable" "depth" "I") ∈ wT := List.mem_filter.mpr ⟨List.mem_of_getElem? (i := 436) (by decide +kernel), by decide +kernel⟩
theorem wd437 : (Jvm.Cond.superclass "java/lang/ArithmeticException" "java/lang/RuntimeException") ∈ wT := List.mem_filter.mpr ⟨List.mem_of_getElem? (i := 437) (by decide +kernel), by decide +kernel⟩
theorem wd438 : (Jvm.Cond.methodLink "RuleReader" (88 : Nat) ({ cls := "RuleReader$Nodes", name := "signedContents", desc := "(I)J" } : Jvm.MethodName)) ∈ wT := List.mem_filter.mpr ⟨List.mem_of_getElem? (i := 438) (by decide +kernel), by decide +kernel⟩
theorem wd439 : (Jvm.Cond.instanceMethod ({ cls := "RuleReader$Nodes", name := "signedContents", desc := "(I)J" } : Jvm.MethodName)) ∈ wT := List.mem_filter.mpr ⟨List.mem_of_getElem? (i := 439) (by decide +kernel), by decide +kernel⟩
theorem wd440 : (Jvm.Cond.selects "RuleReader$Nodes" ({ cls := "RuleReader$Nodes", name := "signedContents", desc := "(I)J" } : Jvm.MethodName) ({ cls := "RuleReader$Nodes", name := "signedContents", desc := "(I)J" } : Jvm.MethodName)) ∈ wT := List.mem_filter.mpr ⟨List.mem_of_getElem? (i := 440) (by decide +kernel), by decide +kernel⟩
theorem wd441 : (Jvm.Cond.code ({ cls := "RuleReader$Nodes", name := "signedContents", desc := "(I)J" } : Jvm.MethodName) prog_4_method_7_code (6 : Nat) (Option.some Jvm.ClassFile.FieldType.long)) ∈ wT := List.mem_filter.mpr ⟨List.mem_of_getElem? (i := 441) (by decide +kernel), by decide +kernel⟩
theorem wd442 : (Jvm.Cond.constantLong "RuleReader$Nodes" (59 : Nat) (-1 : Int64)) ∈ wT := List.mem_filter.mpr ⟨List.mem_of_getElem? (i := 442) (by decide +kernel), by decide +kernel⟩
theorem wd443 : (Jvm.Cond.methodLink "RuleReaderLaw" (83 : Nat) ({ cls := "RuleReaderLaw", name := "wrap", desc := "(LRuleReader;IIZ[J)I" } : Jvm.MethodName)) ∈ wT := List.mem_filter.mpr ⟨List.mem_of_getElem? (i := 443) (by decide +kernel), by decide +kernel⟩
theorem wd444 : (Jvm.Cond.static ({ cls := "RuleReaderLaw", name := "wrap", desc := "(LRuleReader;IIZ[J)I" } : Jvm.MethodName)) ∈ wT := List.mem_filter.mpr ⟨List.mem_of_getElem? (i := 444) (by decide +kernel), by decide +kernel⟩
theorem wd445 : (Jvm.Cond.codeWith ({ cls := "RuleReaderLaw", name := "wrap", desc := "(LRuleReader;IIZ[J)I" } : Jvm.MethodName) method_8_code (6 : Nat) (Option.some Jvm.ClassFile.FieldType.int) [((0 : Nat), (12 : Nat), (15 : Nat), (19 : Nat)), ((0 : Nat), (12 : Nat), (19 : Nat), (13 : Nat))]) ∈ wT := List.mem_filter.mpr ⟨List.mem_of_getElem? (i := 445) (by decide +kernel), by decide +kernel⟩
theorem wd446 : (Jvm.Cond.methodLink "RuleReaderLaw" (37 : Nat) ({ cls := "RuleReader", name := "wrap", desc := "(IIZ)I" } : Jvm.MethodName)) ∈ wT := List.mem_filter.mpr ⟨List.mem_of_getElem? (i := 446) (by decide +kernel), by decide +kernel⟩
theorem wd447 : (Jvm.Cond.instanceMethod ({ cls := "RuleReader", name := "wrap", desc := "(IIZ)I" } : Jvm.MethodName)) ∈ wT := List.mem_filter.mpr ⟨List.mem_of_getElem? (i := 447) (by decide +kernel), by decide +kernel⟩
theorem wd448 : (Jvm.Cond.selects "RuleReader" ({ cls := "RuleReader", name := "wrap", desc := "(IIZ)I" } : Jvm.MethodName) ({ cls := "RuleReader", name := "wrap", desc := "(IIZ)I" } : Jvm.MethodName)) ∈ wT := List.mem_filter.mpr ⟨List.mem_of_getElem? (i := 448) (by decide +kernel), by decide +kernel⟩
theorem wd449 : (Jvm.Cond.code ({ cls := "RuleReader", name := "wrap", desc := "(IIZ)I" } : Jvm.MethodName) prog_1_method_7_code (4 : Nat) (Option.some Jvm.ClassFile.FieldType.int)) ∈ wT := List.mem_filter.mpr ⟨List.mem_of_getElem? (i := 449) (by decide +kernel), by decide +kernel⟩
theorem wd450 : (Jvm.Cond.methodLink "RuleReader" (92 : Nat) ({ cls := "RuleReader", name := "isIdentifier", desc := "(II)Z" } : Jvm.MethodName)) ∈ wT := List.mem_filter.mpr ⟨List.mem_of_getElem? (i := 450) (by decide +kernel), by decide +kernel⟩
theorem wd451 : (Jvm.Cond.static ({ cls := "RuleReader", name := "isIdentifier", desc := "(II)Z" } : Jvm.MethodName)) ∈ wT := List.mem_filter.mpr ⟨List.mem_of_getElem? (i := 451) (by decide +kernel), by decide +kernel⟩
theorem wd452 : (Jvm.Cond.code ({ cls := "RuleReader", name := "isIdentifier", desc := "(II)Z" } : Jvm.MethodName) prog_1_method_12_code (2 : Nat) (Option.some Jvm.ClassFile.FieldType.boolean)) ∈ wT := List.mem_filter.mpr ⟨List.mem_of_getElem? (i := 452) (by decide +kernel), by decide +kernel⟩
theorem wl453 : (Jvm.Cond.stringRef "RuleReader" (96 : Nat) "class 0 to 3, number 0 to 2^31 - 1") ∈ lw_tbl := List.mem_of_getElem? (i := 453) (by decide +kernel)
theorem wd454 : (Jvm.Cond.methodLink "RuleReader" (98 : Nat) ({ cls := "RuleReader", name := "writeIdentifier", desc := "(IIZ)V" } : Jvm.MethodName)) ∈ wT := List.mem_filter.mpr ⟨List.mem_of_getElem? (i := 454) (by decide +kernel), by decide +kernel⟩
theorem wl455 : (Jvm.Cond.privateMethod ({ cls := "RuleReader", name := "writeIdentifier", desc := "(IIZ)V" } : Jvm.MethodName)) ∈ lw_tbl := List.mem_of_getElem? (i := 455) (by decide +kernel)
theorem wd456 : (Jvm.Cond.instanceMethod ({ cls := "RuleReader", name := "writeIdentifier", desc := "(IIZ)V" } : Jvm.MethodName)) ∈ wT := List.mem_filter.mpr ⟨List.mem_of_getElem? (i := 456) (by decide +kernel), by decide +kernel⟩
theorem wd457 : (Jvm.Cond.code ({ cls := "RuleReader", name := "writeIdentifier", desc := "(IIZ)V" } : Jvm.MethodName) prog_1_method_13_code (6 : Nat) (Option.none : Option Jvm.ClassFile.FieldType)) ∈ wT := List.mem_filter.mpr ⟨List.mem_of_getElem? (i := 457) (by decide +kernel), by decide +kernel⟩
theorem wd458 : (Jvm.Cond.methodLink "RuleReader" (127 : Nat) ({ cls := "RuleReader$Bytes", name := "append", desc := "(I)V" } : Jvm.MethodName)) ∈ wT := List.mem_filter.mpr ⟨List.mem_of_getElem? (i := 458) (by decide +kernel), by decide +kernel⟩
theorem wd459 : (Jvm.Cond.methodLink "RuleReader" (102 : Nat) ({ cls := "RuleReader", name := "writeLength", desc := "(I)V" } : Jvm.MethodName)) ∈ wT := List.mem_filter.mpr ⟨List.mem_of_getElem? (i := 459) (by decide +kernel), by decide +kernel⟩
theorem wl460 : (Jvm.Cond.privateMethod ({ cls := "RuleReader", name := "writeLength", desc := "(I)V" } : Jvm.MethodName)) ∈ lw_tbl := List.mem_of_getElem? (i := 460) (by decide +kernel)
theorem wd461 : (Jvm.Cond.instanceMethod ({ cls := "RuleReader", name := "writeLength", desc := "(I)V" } : Jvm.MethodName)) ∈ wT := List.mem_filter.mpr ⟨List.mem_of_getElem? (i := 461) (by decide +kernel), by decide +kernel⟩
theorem wd462 : (Jvm.Cond.code ({ cls := "RuleReader", name := "writeLength", desc := "(I)V" } : Jvm.MethodName) prog_1_method_14_code (2 : Nat) (Option.none : Option Jvm.ClassFile.FieldType)) ∈ wT := List.mem_filter.mpr ⟨List.mem_of_getElem? (i := 462) (by decide +kernel), by decide +kernel⟩
theorem wd463 : (Jvm.Cond.methodLink "RuleReader" (105 : Nat) ({ cls := "RuleReader$Bytes", name := "putInFront", desc := "(LRuleReader$Bytes;)V" } : Jvm.MethodName)) ∈ wT := List.mem_filter.mpr ⟨List.mem_of_getElem? (i := 463) (by decide +kernel), by decide +kernel⟩
theorem wd464 : (Jvm.Cond.instanceMethod ({ cls := "RuleReader$Bytes", name := "putInFront", desc := "(LRuleReader$Bytes;)V" } : Jvm.MethodName)) ∈ wT := List.mem_filter.mpr ⟨List.mem_of_getElem? (i := 464) (by decide +kernel), by decide +kernel⟩
theorem wd465 : (Jvm.Cond.selects "RuleReader$Bytes" ({ cls := "RuleReader$Bytes", name := "putInFront", desc := "(LRuleReader$Bytes;)V" } : Jvm.MethodName) ({ cls := "RuleReader$Bytes", name := "putInFront", desc := "(LRuleReader$Bytes;)V" } : Jvm.MethodName)) ∈ wT := List.mem_filter.mpr ⟨List.mem_of_getElem? (i := 465) (by decide +kernel), by decide +kernel⟩
theorem wd466 : (Jvm.Cond.code ({ cls := "RuleReader$Bytes", name := "putInFront", desc := "(LRuleReader$Bytes;)V" } : Jvm.MethodName) prog_2_method_9_code (4 : Nat) (Option.none : Option Jvm.ClassFile.FieldType)) ∈ wT := List.mem_filter.mpr ⟨List.mem_of_getElem? (i := 466) (by decide +kernel), by decide +kernel⟩
theorem wd467 : (Jvm.Cond.methodLink "RuleReaderLaw" (89 : Nat) ({ cls := "RuleReaderLaw", name := "add", desc := "(LRuleReader;IIJ[J)I" } : Jvm.MethodName)) ∈ wT := List.mem_filter.mpr ⟨List.mem_of_getElem? (i := 467) (by decide +kernel), by decide +kernel⟩
theorem wd468 : (Jvm.Cond.static ({ cls := "RuleReaderLaw", name := "add", desc := "(LRuleReader;IIJ[J)I" } : Jvm.MethodName)) ∈ wT := List.mem_filter.mpr ⟨List.mem_of_getElem? (i := 468) (by decide +kernel), by decide +kernel⟩
theorem wd469 : (Jvm.Cond.codeWith ({ cls := "RuleReaderLaw", name := "add", desc := "(LRuleReader;IIJ[J)I" } : Jvm.MethodName) method_9_code (7 : Nat) (Option.some Jvm.ClassFile.FieldType.int) [((0 : Nat), (12 : Nat), (15 : Nat), (19 : Nat)), ((0 : Nat), (12 : Nat), (19 : Nat), (13 : Nat))]) ∈ wT := List.mem_filter.mpr ⟨List.mem_of_getElem? (i := 469) (by decide +kernel), by decide +kernel⟩
theorem wd470 : (Jvm.Cond.methodLink "RuleReaderLaw" (41 : Nat) ({ cls := "RuleReader", name := "add", desc := "(IIJ)I" } : Jvm.MethodName)) ∈ wT := List.mem_filter.mpr ⟨List.mem_of_getElem? (i := 470) (by decide +kernel), by decide +kernel⟩
theorem wd471 : (Jvm.Cond.instanceMethod ({ cls := "RuleReader", name := "add", desc := "(IIJ)I" } : Jvm.MethodName)) ∈ wT := List.mem_filter.mpr ⟨List.mem_of_getElem? (i := 471) (by decide +kernel), by decide +kernel⟩
theorem wd472 : (Jvm.Cond.selects "RuleReader" ({ cls := "RuleReader", name := "add", desc := "(IIJ)I" } : Jvm.MethodName) ({ cls := "RuleReader", name := "add", desc := "(IIJ)I" } : Jvm.MethodName)) ∈ wT := List.mem_filter.mpr ⟨List.mem_of_getElem? (i := 472) (by decide +kernel), by decide +kernel⟩
theorem wd473 : (Jvm.Cond.code ({ cls := "RuleReader", name := "add", desc := "(IIJ)I" } : Jvm.MethodName) prog_1_method_8_code (6 : Nat) (Option.some Jvm.ClassFile.FieldType.int)) ∈ wT := List.mem_filter.mpr ⟨List.mem_of_getElem? (i := 473) (by decide +kernel), by decide +kernel⟩
theorem wd474 : (Jvm.Cond.methodLink "RuleReader" (109 : Nat) ({ cls := "RuleReader", name := "fewestBytes", desc := "(J)I" } : Jvm.MethodName)) ∈ wT := List.mem_filter.mpr ⟨List.mem_of_getElem? (i := 474) (by decide +kernel), by decide +kernel⟩
theorem wd475 : (Jvm.Cond.static ({ cls := "RuleReader", name := "fewestBytes", desc := "(J)I" } : Jvm.MethodName)) ∈ wT := List.mem_filter.mpr ⟨List.mem_of_getElem? (i := 475) (by decide +kernel), by decide +kernel⟩
theorem wd476 : (Jvm.Cond.code ({ cls := "RuleReader", name := "fewestBytes", desc := "(J)I" } : Jvm.MethodName) prog_1_method_15_code (5 : Nat) (Option.some Jvm.ClassFile.FieldType.int)) ∈ wT := List.mem_filter.mpr ⟨List.mem_of_getElem? (i := 476) (by decide +kernel), by decide +kernel⟩
theorem wd477 : (Jvm.Cond.constantLong "RuleReader" (130 : Nat) (-1 : Int64)) ∈ wT := List.mem_filter.mpr ⟨List.mem_of_getElem? (i := 477) (by decide +kernel), by decide +kernel⟩
theorem wd478 : (Jvm.Cond.methodLink "RuleReader" (113 : Nat) ({ cls := "RuleReader$Bytes", name := "putBehind", desc := "(LRuleReader$Bytes;)V" } : Jvm.MethodName)) ∈ wT := List.mem_filter.mpr ⟨List.mem_of_getElem? (i := 478) (by decide +kernel), by decide +kernel⟩
theorem wd479 : (Jvm.Cond.methodLink "RuleReaderLaw" (93 : Nat) ({ cls := "RuleReaderLaw", name := "compare", desc := "(LRuleReader;II[J)I" } : Jvm.MethodName)) ∈ wT := List.mem_filter.mpr ⟨List.mem_of_getElem? (i := 479) (by decide +kernel), by decide +kernel⟩
theorem wd480 : (Jvm.Cond.static ({ cls := "RuleReaderLaw", name := "compare", desc := "(LRuleReader;II[J)I" } : Jvm.MethodName)) ∈ wT := List.mem_filter.mpr ⟨List.mem_of_getElem? (i := 480) (by decide +kernel), by decide +kernel⟩
theorem wd481 : (Jvm.Cond.codeWith ({ cls := "RuleReaderLaw", name := "compare", desc := "(LRuleReader;II[J)I" } : Jvm.MethodName) method_10_code (5 : Nat) (Option.some Jvm.ClassFile.FieldType.int) [((0 : Nat), (10 : Nat), (13 : Nat), (19 : Nat))]) ∈ wT := List.mem_filter.mpr ⟨List.mem_of_getElem? (i := 481) (by decide +kernel), by decide +kernel⟩
theorem wd482 : (Jvm.Cond.methodLink "RuleReaderLaw" (45 : Nat) ({ cls := "RuleReader", name := "compare", desc := "(II)I" } : Jvm.MethodName)) ∈ wT := List.mem_filter.mpr ⟨List.mem_of_getElem? (i := 482) (by decide +kernel), by decide +kernel⟩
theorem wd483 : (Jvm.Cond.instanceMethod ({ cls := "RuleReader", name := "compare", desc := "(II)I" } : Jvm.MethodName)) ∈ wT := List.mem_filter.mpr ⟨List.mem_of_getElem? (i := 483) (by decide +kernel), by decide +kernel⟩
theorem wd484 : (Jvm.Cond.selects "RuleReader" ({ cls := "RuleReader", name := "compare", desc := "(II)I" } : Jvm.MethodName) ({ cls := "RuleReader", name := "compare", desc := "(II)I" } : Jvm.MethodName)) ∈ wT := List.mem_filter.mpr ⟨List.mem_of_getElem? (i := 484) (by decide +kernel), by decide +kernel⟩
theorem wd485 : (Jvm.Cond.code ({ cls := "RuleReader", name := "compare", desc := "(II)I" } : Jvm.MethodName) prog_1_method_9_code (3 : Nat) (Option.some Jvm.ClassFile.FieldType.int)) ∈ wT := List.mem_filter.mpr ⟨List.mem_of_getElem? (i := 485) (by decide +kernel), by decide +kernel⟩
theorem wd486 : (Jvm.Cond.methodLink "RuleReader" (116 : Nat) ({ cls := "RuleReader$Nodes", name := "orderOf", desc := "(II)I" } : Jvm.MethodName)) ∈ wT := List.mem_filter.mpr ⟨List.mem_of_getElem? (i := 486) (by decide +kernel), by decide +kernel⟩
theorem wd487 : (Jvm.Cond.instanceMethod ({ cls := "RuleReader$Nodes", name := "orderOf", desc := "(II)I" } : Jvm.MethodName)) ∈ wT := List.mem_filter.mpr ⟨List.mem_of_getElem? (i := 487) (by decide +kernel), by decide +kernel⟩
theorem wd488 : (Jvm.Cond.selects "RuleReader$Nodes" ({ cls := "RuleReader$Nodes", name := "orderOf", desc := "(II)I" } : Jvm.MethodName) ({ cls := "RuleReader$Nodes", name := "orderOf", desc := "(II)I" } : Jvm.MethodName)) ∈ wT := List.mem_filter.mpr ⟨List.mem_of_getElem? (i := 488) (by decide +kernel), by decide +kernel⟩
theorem wd489 : (Jvm.Cond.code ({ cls := "RuleReader$Nodes", name := "orderOf", desc := "(II)I" } : Jvm.MethodName) prog_4_method_8_code (6 : Nat) (Option.some Jvm.ClassFile.FieldType.int)) ∈ wT := List.mem_filter.mpr ⟨List.mem_of_getElem? (i := 489) (by decide +kernel), by decide +kernel⟩
theorem wd490 : (Jvm.Cond.methodLink "RuleReader$Nodes" (66 : Nat) ({ cls := "java/lang/Math", name := "max", desc := "(II)I" } : Jvm.MethodName)) ∈ wT := List.mem_filter.mpr ⟨List.mem_of_getElem? (i := 490) (by decide +kernel), by decide +kernel⟩
theorem wd491 : (Jvm.Cond.methodLink "RuleReader$Nodes" (69 : Nat) ({ cls := "java/lang/Integer", name := "compare", desc := "(II)I" } : Jvm.MethodName)) ∈ wT := List.mem_filter.mpr ⟨List.mem_of_getElem? (i := 491) (by decide +kernel), by decide +kernel⟩
theorem wd492 : (Jvm.Cond.static ({ cls := "java/lang/Integer", name := "compare", desc := "(II)I" } : Jvm.MethodName)) ∈ wT := List.mem_filter.mpr ⟨List.mem_of_getElem? (i := 492) (by decide +kernel), by decide +kernel⟩
theorem wd493 : (Jvm.Cond.code ({ cls := "java/lang/Integer", name := "compare", desc := "(II)I" } : Jvm.MethodName) prog_12_method_40_code (2 : Nat) (Option.some Jvm.ClassFile.FieldType.int)) ∈ wT := List.mem_filter.mpr ⟨List.mem_of_getElem? (i := 493) (by decide +kernel), by decide +kernel⟩
theorem wd494 : (Jvm.Cond.methodLink "RuleReaderLaw" (96 : Nat) ({ cls := "RuleReaderLaw", name := "count", desc := "(LRuleReader;I[J)I" } : Jvm.MethodName)) ∈ wT := List.mem_filter.mpr ⟨List.mem_of_getElem? (i := 494) (by decide +kernel), by decide +kernel⟩
theorem wd495 : (Jvm.Cond.static ({ cls := "RuleReaderLaw", name := "count", desc := "(LRuleReader;I[J)I" } : Jvm.MethodName)) ∈ wT := List.mem_filter.mpr ⟨List.mem_of_getElem? (i := 495) (by decide +kernel), by decide +kernel⟩
theorem wd496 : (Jvm.Cond.codeWith ({ cls := "RuleReaderLaw", name := "count", desc := "(LRuleReader;I[J)I" } : Jvm.MethodName) method_11_code (4 : Nat) (Option.some Jvm.ClassFile.FieldType.int) [((0 : Nat), (9 : Nat), (12 : Nat), (19 : Nat))]) ∈ wT := List.mem_filter.mpr ⟨List.mem_of_getElem? (i := 496) (by decide +kernel), by decide +kernel⟩
theorem wd497 : (Jvm.Cond.methodLink "RuleReaderLaw" (48 : Nat) ({ cls := "RuleReader", name := "count", desc := "(I)I" } : Jvm.MethodName)) ∈ wT := List.mem_filter.mpr ⟨List.mem_of_getElem? (i := 497) (by decide +kernel), by decide +kernel⟩
theorem wd498 : (Jvm.Cond.instanceMethod ({ cls := "RuleReader", name := "count", desc := "(I)I" } : Jvm.MethodName)) ∈ wT := List.mem_filter.mpr ⟨List.mem_of_getElem? (i := 498) (by decide +kernel), by decide +kernel⟩
theorem wd499 : (Jvm.Cond.selects "RuleReader" ({ cls := "RuleReader", name := "count", desc := "(I)I" } : Jvm.MethodName) ({ cls := "RuleReader", name := "count", desc := "(I)I" } : Jvm.MethodName)) ∈ wT := List.mem_filter.mpr ⟨List.mem_of_getElem? (i := 499) (by decide +kernel), by decide +kernel⟩
theorem wd500 : (Jvm.Cond.code ({ cls := "RuleReader", name := "count", desc := "(I)I" } : Jvm.MethodName) prog_1_method_10_code (2 : Nat) (Option.some Jvm.ClassFile.FieldType.int)) ∈ wT := List.mem_filter.mpr ⟨List.mem_of_getElem? (i := 500) (by decide +kernel), by decide +kernel⟩
theorem wl501 : (Jvm.Cond.stringRef "RuleReader" (119 : Nat) "what is 0 or 1") ∈ lw_tbl := List.mem_of_getElem? (i := 501) (by decide +kernel)
theorem wd502 : (Jvm.Cond.methodLink "RuleReaderLaw" (99 : Nat) ({ cls := "RuleReaderLaw", name := "word", desc := "(LRuleReader;I[J)I" } : Jvm.MethodName)) ∈ wT := List.mem_filter.mpr ⟨List.mem_of_getElem? (i := 502) (by decide +kernel), by decide +kernel⟩
theorem wd503 : (Jvm.Cond.static ({ cls := "RuleReaderLaw", name := "word", desc := "(LRuleReader;I[J)I" } : Jvm.MethodName)) ∈ wT := List.mem_filter.mpr ⟨List.mem_of_getElem? (i := 503) (by decide +kernel), by decide +kernel⟩
theorem wd504 : (Jvm.Cond.codeWith ({ cls := "RuleReaderLaw", name := "word", desc := "(LRuleReader;I[J)I" } : Jvm.MethodName) method_12_code (4 : Nat) (Option.some Jvm.ClassFile.FieldType.int) [((0 : Nat), (8 : Nat), (11 : Nat), (13 : Nat))]) ∈ wT := List.mem_filter.mpr ⟨List.mem_of_getElem? (i := 504) (by decide +kernel), by decide +kernel⟩
theorem wd505 : (Jvm.Cond.methodLink "RuleReaderLaw" (51 : Nat) ({ cls := "RuleReader", name := "word", desc := "(I)J" } : Jvm.MethodName)) ∈ wT := List.mem_filter.mpr ⟨List.mem_of_getElem? (i := 505) (by decide +kernel), by decide +kernel⟩
theorem wd506 : (Jvm.Cond.instanceMethod ({ cls := "RuleReader", name := "word", desc := "(I)J" } : Jvm.MethodName)) ∈ wT := List.mem_filter.mpr ⟨List.mem_of_getElem? (i := 506) (by decide +kernel), by decide +kernel⟩
theorem wd507 : (Jvm.Cond.selects "RuleReader" ({ cls := "RuleReader", name := "word", desc := "(I)J" } : Jvm.MethodName) ({ cls := "RuleReader", name := "word", desc := "(I)J" } : Jvm.MethodName)) ∈ wT := List.mem_filter.mpr ⟨List.mem_of_getElem? (i := 507) (by decide +kernel), by decide +kernel⟩
theorem wd508 : (Jvm.Cond.code ({ cls := "RuleReader", name := "word", desc := "(I)J" } : Jvm.MethodName) prog_1_method_11_code (5 : Nat) (Option.some Jvm.ClassFile.FieldType.long)) ∈ wT := List.mem_filter.mpr ⟨List.mem_of_getElem? (i := 508) (by decide +kernel), by decide +kernel⟩
theorem wl509 : (Jvm.Cond.stringRef "RuleReader" (121 : Nat) "the tape has no such byte") ∈ lw_tbl := List.mem_of_getElem? (i := 509) (by decide +kernel)
theorem wd510 : (Jvm.Cond.methodLink "RuleReader" (123 : Nat) ({ cls := "RuleReader$Bytes", name := "at", desc := "(I)I" } : Jvm.MethodName)) ∈ wT := List.mem_filter.mpr ⟨List.mem_of_getElem? (i := 510) (by decide +kernel), by decide +kernel⟩
theorem wd511 : (Jvm.Cond.classLink "RuleReaderLaw" (55 : Nat) "RuleReaderModel") ∈ wT := List.mem_filter.mpr ⟨List.mem_of_getElem? (i := 511) (by decide +kernel), by decide +kernel⟩
theorem wd512 : (Jvm.Cond.instantiable "RuleReaderModel" (10 : Nat)) ∈ wT := List.mem_filter.mpr ⟨List.mem_of_getElem? (i := 512) (by decide +kernel), by decide +kernel⟩
theorem wd513 : (Jvm.Cond.methodLink "RuleReaderLaw" (57 : Nat) ({ cls := "RuleReaderModel", name := "<init>", desc := "()V" } : Jvm.MethodName)) ∈ wT := List.mem_filter.mpr ⟨List.mem_of_getElem? (i := 513) (by decide +kernel), by decide +kernel⟩
theorem wd514 : (Jvm.Cond.instanceMethod ({ cls := "RuleReaderModel", name := "<init>", desc := "()V" } : Jvm.MethodName)) ∈ wT := List.mem_filter.mpr ⟨List.mem_of_getElem? (i := 514) (by decide +kernel), by decide +kernel⟩
theorem wd515 : (Jvm.Cond.code ({ cls := "RuleReaderModel", name := "<init>", desc := "()V" } : Jvm.MethodName) prog_6_method_1_code (1 : Nat) (Option.none : Option Jvm.ClassFile.FieldType)) ∈ wT := List.mem_filter.mpr ⟨List.mem_of_getElem? (i := 515) (by decide +kernel), by decide +kernel⟩
theorem wd516 : (Jvm.Cond.methodLink "RuleReaderModel" (1 : Nat) ({ cls := "java/lang/Object", name := "<init>", desc := "()V" } : Jvm.MethodName)) ∈ wT := List.mem_filter.mpr ⟨List.mem_of_getElem? (i := 516) (by decide +kernel), by decide +kernel⟩
theorem wd517 : (Jvm.Cond.fieldLink "RuleReaderModel" (23 : Nat) "RuleReaderModel" "failed" "I") ∈ wT := List.mem_filter.mpr ⟨List.mem_of_getElem? (i := 517) (by decide +kernel), by decide +kernel⟩
theorem wd518 : (Jvm.Cond.fieldLink "RuleReaderModel" (7 : Nat) "RuleReaderModel" "tape" "[B") ∈ wT := List.mem_filter.mpr ⟨List.mem_of_getElem? (i := 518) (by decide +kernel), by decide +kernel⟩
theorem wd519 : (Jvm.Cond.fieldLink "RuleReaderModel" (27 : Nat) "RuleReaderModel" "taped" "I") ∈ wT := List.mem_filter.mpr ⟨List.mem_of_getElem? (i := 519) (by decide +kernel), by decide +kernel⟩
theorem wd520 : (Jvm.Cond.fieldLink "RuleReaderModel" (13 : Nat) "RuleReaderModel" "kept" "[B") ∈ wT := List.mem_filter.mpr ⟨List.mem_of_getElem? (i := 520) (by decide +kernel), by decide +kernel⟩
theorem wd521 : (Jvm.Cond.fieldLink "RuleReaderModel" (77 : Nat) "RuleReaderModel" "nodes" "I") ∈ wT := List.mem_filter.mpr ⟨List.mem_of_getElem? (i := 521) (by decide +kernel), by decide +kernel⟩
theorem wd522 : (Jvm.Cond.fieldLink "RuleReaderModel" (16 : Nat) "RuleReaderModel" "told" "[I") ∈ wT := List.mem_filter.mpr ⟨List.mem_of_getElem? (i := 522) (by decide +kernel), by decide +kernel⟩
theorem wd523 : (Jvm.Cond.fieldLink "RuleReaderModel" (20 : Nat) "RuleReaderModel" "trial" "[I") ∈ wT := List.mem_filter.mpr ⟨List.mem_of_getElem? (i := 523) (by decide +kernel), by decide +kernel⟩
theorem wd524 : (Jvm.Cond.fieldLink "RuleReaderModel" (34 : Nat) "RuleReaderModel" "at" "I") ∈ wT := List.mem_filter.mpr ⟨List.mem_of_getElem? (i := 524) (by decide +kernel), by decide +kernel⟩
theorem wd525 : (Jvm.Cond.fieldLink "RuleReaderModel" (37 : Nat) "RuleReaderModel" "made" "I") ∈ wT := List.mem_filter.mpr ⟨List.mem_of_getElem? (i := 525) (by decide +kernel), by decide +kernel⟩
theorem wd526 : (Jvm.Cond.fieldLink "RuleReaderModel" (64 : Nat) "RuleReaderModel" "strict" "Z") ∈ wT := List.mem_filter.mpr ⟨List.mem_of_getElem? (i := 526) (by decide +kernel), by decide +kernel⟩
theorem wd527 : (Jvm.Cond.lays "RuleReaderModel" "RuleReaderModel" "failed" "I") ∈ wT := List.mem_filter.mpr ⟨List.mem_of_getElem? (i := 527) (by decide +kernel), by decide +kernel⟩
theorem wd528 : (Jvm.Cond.soleField "RuleReaderModel" "failed") ∈ wT := List.mem_filter.mpr ⟨List.mem_of_getElem? (i := 528) (by decide +kernel), by decide +kernel⟩
theorem wd529 : (Jvm.Cond.laysFinal "RuleReaderModel" "RuleReaderModel" "tape" "[B") ∈ wT := List.mem_filter.mpr ⟨List.mem_of_getElem? (i := 529) (by decide +kernel), by decide +kernel⟩
theorem wd530 : (Jvm.Cond.soleField "RuleReaderModel" "tape") ∈ wT := List.mem_filter.mpr ⟨List.mem_of_getElem? (i := 530) (by decide +kernel), by decide +kernel⟩
theorem wd531 : (Jvm.Cond.lays "RuleReaderModel" "RuleReaderModel" "taped" "I") ∈ wT := List.mem_filter.mpr ⟨List.mem_of_getElem? (i := 531) (by decide +kernel), by decide +kernel⟩
theorem wd532 : (Jvm.Cond.soleField "RuleReaderModel" "taped") ∈ wT := List.mem_filter.mpr ⟨List.mem_of_getElem? (i := 532) (by decide +kernel), by decide +kernel⟩
theorem wd533 : (Jvm.Cond.laysFinal "RuleReaderModel" "RuleReaderModel" "kept" "[B") ∈ wT := List.mem_filter.mpr ⟨List.mem_of_getElem? (i := 533) (by decide +kernel), by decide +kernel⟩
theorem wd534 : (Jvm.Cond.soleField "RuleReaderModel" "kept") ∈ wT := List.mem_filter.mpr ⟨List.mem_of_getElem? (i := 534) (by decide +kernel), by decide +kernel⟩
theorem wd535 : (Jvm.Cond.lays "RuleReaderModel" "RuleReaderModel" "nodes" "I") ∈ wT := List.mem_filter.mpr ⟨List.mem_of_getElem? (i := 535) (by decide +kernel), by decide +kernel⟩
theorem wd536 : (Jvm.Cond.soleField "RuleReaderModel" "nodes") ∈ wT := List.mem_filter.mpr ⟨List.mem_of_getElem? (i := 536) (by decide +kernel), by decide +kernel⟩
theorem wd537 : (Jvm.Cond.laysFinal "RuleReaderModel" "RuleReaderModel" "told" "[I") ∈ wT := List.mem_filter.mpr ⟨List.mem_of_getElem? (i := 537) (by decide +kernel), by decide +kernel⟩
theorem wd538 : (Jvm.Cond.soleField "RuleReaderModel" "told") ∈ wT := List.mem_filter.mpr ⟨List.mem_of_getElem? (i := 538) (by decide +kernel), by decide +kernel⟩
theorem wd539 : (Jvm.Cond.laysFinal "RuleReaderModel" "RuleReaderModel" "trial" "[I") ∈ wT := List.mem_filter.mpr ⟨List.mem_of_getElem? (i := 539) (by decide +kernel), by decide +kernel⟩
theorem wd540 : (Jvm.Cond.soleField "RuleReaderModel" "trial") ∈ wT := List.mem_filter.mpr ⟨List.mem_of_getElem? (i := 540) (by decide +kernel), by decide +kernel⟩
theorem wd541 : (Jvm.Cond.lays "RuleReaderModel" "RuleReaderModel" "at" "I") ∈ wT := List.mem_filter.mpr ⟨List.mem_of_getElem? (i := 541) (by decide +kernel), by decide +kernel⟩
theorem wd542 : (Jvm.Cond.soleField "RuleReaderModel" "at") ∈ wT := List.mem_filter.mpr ⟨List.mem_of_getElem? (i := 542) (by decide +kernel), by decide +kernel⟩
theorem wd543 : (Jvm.Cond.lays "RuleReaderModel" "RuleReaderModel" "made" "I") ∈ wT := List.mem_filter.mpr ⟨List.mem_of_getElem? (i := 543) (by decide +kernel), by decide +kernel⟩
theorem wd544 : (Jvm.Cond.soleField "RuleReaderModel" "made") ∈ wT := List.mem_filter.mpr ⟨List.mem_of_getElem? (i := 544) (by decide +kernel), by decide +kernel⟩
theorem wd545 : (Jvm.Cond.lays "RuleReaderModel" "RuleReaderModel" "strict" "Z") ∈ wT := List.mem_filter.mpr ⟨List.mem_of_getElem? (i := 545) (by decide +kernel), by decide +kernel⟩
theorem wd546 : (Jvm.Cond.soleField "RuleReaderModel" "strict") ∈ wT := List.mem_filter.mpr ⟨List.mem_of_getElem? (i := 546) (by decide +kernel), by decide +kernel⟩
theorem wd547 : (Jvm.Cond.superclass "RuleReaderModel" "java/lang/Object") ∈ wT := List.mem_filter.mpr ⟨List.mem_of_getElem? (i := 547) (by decide +kernel), by decide +kernel⟩
theorem wd548 : (Jvm.Cond.methodLink "RuleReaderLaw" (64 : Nat) ({ cls := "RuleReaderModel", name := "thrown", desc := "()I" } : Jvm.MethodName)) ∈ wT := List.mem_filter.mpr ⟨List.mem_of_getElem? (i := 548) (by decide +kernel), by decide +kernel⟩
theorem wd549 : (Jvm.Cond.instanceMethod ({ cls := "RuleReaderModel", name := "thrown", desc := "()I" } : Jvm.MethodName)) ∈ wT := List.mem_filter.mpr ⟨List.mem_of_getElem? (i := 549) (by decide +kernel), by decide +kernel⟩
theorem wd550 : (Jvm.Cond.selects "RuleReaderModel" ({ cls := "RuleReaderModel", name := "thrown", desc := "()I" } : Jvm.MethodName) ({ cls := "RuleReaderModel", name := "thrown", desc := "()I" } : Jvm.MethodName)) ∈ wT := List.mem_filter.mpr ⟨List.mem_of_getElem? (i := 550) (by decide +kernel), by decide +kernel⟩
theorem wd551 : (Jvm.Cond.code ({ cls := "RuleReaderModel", name := "thrown", desc := "()I" } : Jvm.MethodName) prog_6_method_2_code (1 : Nat) (Option.some Jvm.ClassFile.FieldType.int)) ∈ wT := List.mem_filter.mpr ⟨List.mem_of_getElem? (i := 551) (by decide +kernel), by decide +kernel⟩
theorem wd552 : (Jvm.Cond.methodLink "RuleReaderLaw" (63 : Nat) ({ cls := "RuleReaderModel", name := "feed", desc := "(IIIII)I" } : Jvm.MethodName)) ∈ wT := List.mem_filter.mpr ⟨List.mem_of_getElem? (i := 552) (by decide +kernel), by decide +kernel⟩
theorem wd553 : (Jvm.Cond.instanceMethod ({ cls := "RuleReaderModel", name := "feed", desc := "(IIIII)I" } : Jvm.MethodName)) ∈ wT := List.mem_filter.mpr ⟨List.mem_of_getElem? (i := 553) (by decide +kernel), by decide +kernel⟩
theorem wd554 : (Jvm.Cond.selects "RuleReaderModel" ({ cls := "RuleReaderModel", name := "feed", desc := "(IIIII)I" } : Jvm.MethodName) ({ cls := "RuleReaderModel", name := "feed", desc := "(IIIII)I" } : Jvm.MethodName)) ∈ wT := List.mem_filter.mpr ⟨List.mem_of_getElem? (i := 554) (by decide +kernel), by decide +kernel⟩
theorem wd555 : (Jvm.Cond.code ({ cls := "RuleReaderModel", name := "feed", desc := "(IIIII)I" } : Jvm.MethodName) prog_6_method_4_code (8 : Nat) (Option.some Jvm.ClassFile.FieldType.int)) ∈ wT := List.mem_filter.mpr ⟨List.mem_of_getElem? (i := 555) (by decide +kernel), by decide +kernel⟩
theorem wd556 : (Jvm.Cond.methodLink "RuleReaderModel" (30 : Nat) ({ cls := "RuleReaderModel", name := "fail", desc := "(I)I" } : Jvm.MethodName)) ∈ wT := List.mem_filter.mpr ⟨List.mem_of_getElem? (i := 556) (by decide +kernel), by decide +kernel⟩
theorem wl557 : (Jvm.Cond.privateMethod ({ cls := "RuleReaderModel", name := "fail", desc := "(I)I" } : Jvm.MethodName)) ∈ lw_tbl := List.mem_of_getElem? (i := 557) (by decide +kernel)
theorem wd558 : (Jvm.Cond.instanceMethod ({ cls := "RuleReaderModel", name := "fail", desc := "(I)I" } : Jvm.MethodName)) ∈ wT := List.mem_filter.mpr ⟨List.mem_of_getElem? (i := 558) (by decide +kernel), by decide +kernel⟩
theorem wd559 : (Jvm.Cond.code ({ cls := "RuleReaderModel", name := "fail", desc := "(I)I" } : Jvm.MethodName) prog_6_method_3_code (2 : Nat) (Option.some Jvm.ClassFile.FieldType.int)) ∈ wT := List.mem_filter.mpr ⟨List.mem_of_getElem? (i := 559) (by decide +kernel), by decide +kernel⟩
theorem wd560 : (Jvm.Cond.methodLink "RuleReaderLaw" (71 : Nat) ({ cls := "RuleReaderModel", name := "end", desc := "(I)I" } : Jvm.MethodName)) ∈ wT := List.mem_filter.mpr ⟨List.mem_of_getElem? (i := 560) (by decide +kernel), by decide +kernel⟩
theorem wd561 : (Jvm.Cond.instanceMethod ({ cls := "RuleReaderModel", name := "end", desc := "(I)I" } : Jvm.MethodName)) ∈ wT := List.mem_filter.mpr ⟨List.mem_of_getElem? (i := 561) (by decide +kernel), by decide +kernel⟩
theorem wd562 : (Jvm.Cond.selects "RuleReaderModel" ({ cls := "RuleReaderModel", name := "end", desc := "(I)I" } : Jvm.MethodName) ({ cls := "RuleReaderModel", name := "end", desc := "(I)I" } : Jvm.MethodName)) ∈ wT := List.mem_filter.mpr ⟨List.mem_of_getElem? (i := 562) (by decide +kernel), by decide +kernel⟩
theorem wd563 : (Jvm.Cond.code ({ cls := "RuleReaderModel", name := "end", desc := "(I)I" } : Jvm.MethodName) prog_6_method_5_code (2 : Nat) (Option.some Jvm.ClassFile.FieldType.int)) ∈ wT := List.mem_filter.mpr ⟨List.mem_of_getElem? (i := 563) (by decide +kernel), by decide +kernel⟩
theorem wd564 : (Jvm.Cond.methodLink "RuleReaderLaw" (75 : Nat) ({ cls := "RuleReaderModel", name := "read", desc := "(Z)I" } : Jvm.MethodName)) ∈ wT := List.mem_filter.mpr ⟨List.mem_of_getElem? (i := 564) (by decide +kernel), by decide +kernel⟩
theorem wd565 : (Jvm.Cond.instanceMethod ({ cls := "RuleReaderModel", name := "read", desc := "(Z)I" } : Jvm.MethodName)) ∈ wT := List.mem_filter.mpr ⟨List.mem_of_getElem? (i := 565) (by decide +kernel), by decide +kernel⟩
theorem wd566 : (Jvm.Cond.selects "RuleReaderModel" ({ cls := "RuleReaderModel", name := "read", desc := "(Z)I" } : Jvm.MethodName) ({ cls := "RuleReaderModel", name := "read", desc := "(Z)I" } : Jvm.MethodName)) ∈ wT := List.mem_filter.mpr ⟨List.mem_of_getElem? (i := 566) (by decide +kernel), by decide +kernel⟩
theorem wd567 : (Jvm.Cond.code ({ cls := "RuleReaderModel", name := "read", desc := "(Z)I" } : Jvm.MethodName) prog_6_method_10_code (3 : Nat) (Option.some Jvm.ClassFile.FieldType.int)) ∈ wT := List.mem_filter.mpr ⟨List.mem_of_getElem? (i := 567) (by decide +kernel), by decide +kernel⟩
theorem wd568 : (Jvm.Cond.methodLink "RuleReaderModel" (72 : Nat) ({ cls := "RuleReaderModel", name := "value", desc := "(III)Z" } : Jvm.MethodName)) ∈ wT := List.mem_filter.mpr ⟨List.mem_of_getElem? (i := 568) (by decide +kernel), by decide +kernel⟩
theorem wl569 : (Jvm.Cond.privateMethod ({ cls := "RuleReaderModel", name := "value", desc := "(III)Z" } : Jvm.MethodName)) ∈ lw_tbl := List.mem_of_getElem? (i := 569) (by decide +kernel)
theorem wd570 : (Jvm.Cond.instanceMethod ({ cls := "RuleReaderModel", name := "value", desc := "(III)Z" } : Jvm.MethodName)) ∈ wT := List.mem_filter.mpr ⟨List.mem_of_getElem? (i := 570) (by decide +kernel), by decide +kernel⟩
theorem wd571 : (Jvm.Cond.code ({ cls := "RuleReaderModel", name := "value", desc := "(III)Z" } : Jvm.MethodName) prog_6_method_7_code (11 : Nat) (Option.some Jvm.ClassFile.FieldType.boolean)) ∈ wT := List.mem_filter.mpr ⟨List.mem_of_getElem? (i := 571) (by decide +kernel), by decide +kernel⟩
theorem wd572 : (Jvm.Cond.methodLink "RuleReaderModel" (40 : Nat) ({ cls := "RuleReaderModel", name := "next", desc := "()I" } : Jvm.MethodName)) ∈ wT := List.mem_filter.mpr ⟨List.mem_of_getElem? (i := 572) (by decide +kernel), by decide +kernel⟩
theorem wl573 : (Jvm.Cond.privateMethod ({ cls := "RuleReaderModel", name := "next", desc := "()I" } : Jvm.MethodName)) ∈ lw_tbl := List.mem_of_getElem? (i := 573) (by decide +kernel)
theorem wd574 : (Jvm.Cond.instanceMethod ({ cls := "RuleReaderModel", name := "next", desc := "()I" } : Jvm.MethodName)) ∈ wT := List.mem_filter.mpr ⟨List.mem_of_getElem? (i := 574) (by decide +kernel), by decide +kernel⟩
theorem wd575 : (Jvm.Cond.code ({ cls := "RuleReaderModel", name := "next", desc := "()I" } : Jvm.MethodName) prog_6_method_6_code (2 : Nat) (Option.some Jvm.ClassFile.FieldType.int)) ∈ wT := List.mem_filter.mpr ⟨List.mem_of_getElem? (i := 575) (by decide +kernel), by decide +kernel⟩
theorem wd576 : (Jvm.Cond.constantLong "RuleReaderModel" (44 : Nat) (31 : Int64)) ∈ wT := List.mem_filter.mpr ⟨List.mem_of_getElem? (i := 576) (by decide +kernel), by decide +kernel⟩
theorem wd577 : (Jvm.Cond.constantLong "RuleReaderModel" (46 : Nat) (1099511627776 : Int64)) ∈ wT := List.mem_filter.mpr ⟨List.mem_of_getElem? (i := 577) (by decide +kernel), by decide +kernel⟩
theorem wd578 : (Jvm.Cond.methodLink "RuleReaderModel" (48 : Nat) ({ cls := "java/lang/Math", name := "min", desc := "(JJ)J" } : Jvm.MethodName)) ∈ wT := List.mem_filter.mpr ⟨List.mem_of_getElem? (i := 578) (by decide +kernel), by decide +kernel⟩
theorem wd579 : (Jvm.Cond.static ({ cls := "java/lang/Math", name := "min", desc := "(JJ)J" } : Jvm.MethodName)) ∈ wT := List.mem_filter.mpr ⟨List.mem_of_getElem? (i := 579) (by decide +kernel), by decide +kernel⟩
theorem wd580 : (Jvm.Cond.code ({ cls := "java/lang/Math", name := "min", desc := "(JJ)J" } : Jvm.MethodName) prog_13_method_70_code (4 : Nat) (Option.some Jvm.ClassFile.FieldType.long)) ∈ wT := List.mem_filter.mpr ⟨List.mem_of_getElem? (i := 580) (by decide +kernel), by decide +kernel⟩
theorem wd581 : (Jvm.Cond.constantLong "RuleReaderModel" (54 : Nat) (2147483647 : Int64)) ∈ wT := List.mem_filter.mpr ⟨List.mem_of_getElem? (i := 581) (by decide +kernel), by decide +kernel⟩
theorem wd582 : (Jvm.Cond.methodLink "RuleReaderModel" (56 : Nat) ({ cls := "RuleReaderModel", name := "length", desc := "()J" } : Jvm.MethodName)) ∈ wT := List.mem_filter.mpr ⟨List.mem_of_getElem? (i := 582) (by decide +kernel), by decide +kernel⟩
theorem wl583 : (Jvm.Cond.privateMethod ({ cls := "RuleReaderModel", name := "length", desc := "()J" } : Jvm.MethodName)) ∈ lw_tbl := List.mem_of_getElem? (i := 583) (by decide +kernel)
theorem wd584 : (Jvm.Cond.instanceMethod ({ cls := "RuleReaderModel", name := "length", desc := "()J" } : Jvm.MethodName)) ∈ wT := List.mem_filter.mpr ⟨List.mem_of_getElem? (i := 584) (by decide +kernel), by decide +kernel⟩
theorem wd585 : (Jvm.Cond.code ({ cls := "RuleReaderModel", name := "length", desc := "()J" } : Jvm.MethodName) prog_6_method_9_code (6 : Nat) (Option.some Jvm.ClassFile.FieldType.long)) ∈ wT := List.mem_filter.mpr ⟨List.mem_of_getElem? (i := 585) (by decide +kernel), by decide +kernel⟩
theorem wd586 : (Jvm.Cond.constantLong "RuleReaderModel" (60 : Nat) (-2 : Int64)) ∈ wT := List.mem_filter.mpr ⟨List.mem_of_getElem? (i := 586) (by decide +kernel), by decide +kernel⟩
theorem wd587 : (Jvm.Cond.constantLong "RuleReaderModel" (62 : Nat) (-1 : Int64)) ∈ wT := List.mem_filter.mpr ⟨List.mem_of_getElem? (i := 587) (by decide +kernel), by decide +kernel⟩
theorem wd588 : (Jvm.Cond.constantLong "RuleReaderModel" (75 : Nat) (128 : Int64)) ∈ wT := List.mem_filter.mpr ⟨List.mem_of_getElem? (i := 588) (by decide +kernel), by decide +kernel⟩
theorem wd589 : (Jvm.Cond.methodLink "RuleReaderModel" (68 : Nat) ({ cls := "RuleReaderModel", name := "open", desc := "(III)Z" } : Jvm.MethodName)) ∈ wT := List.mem_filter.mpr ⟨List.mem_of_getElem? (i := 589) (by decide +kernel), by decide +kernel⟩
theorem wl590 : (Jvm.Cond.privateMethod ({ cls := "RuleReaderModel", name := "open", desc := "(III)Z" } : Jvm.MethodName)) ∈ lw_tbl := List.mem_of_getElem? (i := 590) (by decide +kernel)
theorem wd591 : (Jvm.Cond.instanceMethod ({ cls := "RuleReaderModel", name := "open", desc := "(III)Z" } : Jvm.MethodName)) ∈ wT := List.mem_filter.mpr ⟨List.mem_of_getElem? (i := 591) (by decide +kernel), by decide +kernel⟩
theorem wd592 : (Jvm.Cond.code ({ cls := "RuleReaderModel", name := "open", desc := "(III)Z" } : Jvm.MethodName) prog_6_method_8_code (4 : Nat) (Option.some Jvm.ClassFile.FieldType.boolean)) ∈ wT := List.mem_filter.mpr ⟨List.mem_of_getElem? (i := 592) (by decide +kernel), by decide +kernel⟩
theorem wd593 : (Jvm.Cond.methodLink "RuleReaderLaw" (79 : Nat) ({ cls := "RuleReaderModel", name := "node", desc := "(II)I" } : Jvm.MethodName)) ∈ wT := List.mem_filter.mpr ⟨List.mem_of_getElem? (i := 593) (by decide +kernel), by decide +kernel⟩
theorem wd594 : (Jvm.Cond.instanceMethod ({ cls := "RuleReaderModel", name := "node", desc := "(II)I" } : Jvm.MethodName)) ∈ wT := List.mem_filter.mpr ⟨List.mem_of_getElem? (i := 594) (by decide +kernel), by decide +kernel⟩
theorem wd595 : (Jvm.Cond.selects "RuleReaderModel" ({ cls := "RuleReaderModel", name := "node", desc := "(II)I" } : Jvm.MethodName) ({ cls := "RuleReaderModel", name := "node", desc := "(II)I" } : Jvm.MethodName)) ∈ wT := List.mem_filter.mpr ⟨List.mem_of_getElem? (i := 595) (by decide +kernel), by decide +kernel⟩
theorem wd596 : (Jvm.Cond.code ({ cls := "RuleReaderModel", name := "node", desc := "(II)I" } : Jvm.MethodName) prog_6_method_12_code (3 : Nat) (Option.some Jvm.ClassFile.FieldType.int)) ∈ wT := List.mem_filter.mpr ⟨List.mem_of_getElem? (i := 596) (by decide +kernel), by decide +kernel⟩
theorem wd597 : (Jvm.Cond.methodLink "RuleReaderModel" (80 : Nat) ({ cls := "RuleReaderModel", name := "out", desc := "(I)Z" } : Jvm.MethodName)) ∈ wT := List.mem_filter.mpr ⟨List.mem_of_getElem? (i := 597) (by decide +kernel), by decide +kernel⟩
theorem wl598 : (Jvm.Cond.privateMethod ({ cls := "RuleReaderModel", name := "out", desc := "(I)Z" } : Jvm.MethodName)) ∈ lw_tbl := List.mem_of_getElem? (i := 598) (by decide +kernel)
theorem wd599 : (Jvm.Cond.instanceMethod ({ cls := "RuleReaderModel", name := "out", desc := "(I)Z" } : Jvm.MethodName)) ∈ wT := List.mem_filter.mpr ⟨List.mem_of_getElem? (i := 599) (by decide +kernel), by decide +kernel⟩
theorem wd600 : (Jvm.Cond.code ({ cls := "RuleReaderModel", name := "out", desc := "(I)Z" } : Jvm.MethodName) prog_6_method_11_code (2 : Nat) (Option.some Jvm.ClassFile.FieldType.boolean)) ∈ wT := List.mem_filter.mpr ⟨List.mem_of_getElem? (i := 600) (by decide +kernel), by decide +kernel⟩
theorem wd601 : (Jvm.Cond.methodLink "RuleReaderLaw" (82 : Nat) ({ cls := "RuleReaderModel", name := "number", desc := "(I)J" } : Jvm.MethodName)) ∈ wT := List.mem_filter.mpr ⟨List.mem_of_getElem? (i := 601) (by decide +kernel), by decide +kernel⟩
theorem wd602 : (Jvm.Cond.instanceMethod ({ cls := "RuleReaderModel", name := "number", desc := "(I)J" } : Jvm.MethodName)) ∈ wT := List.mem_filter.mpr ⟨List.mem_of_getElem? (i := 602) (by decide +kernel), by decide +kernel⟩
theorem wd603 : (Jvm.Cond.selects "RuleReaderModel" ({ cls := "RuleReaderModel", name := "number", desc := "(I)J" } : Jvm.MethodName) ({ cls := "RuleReaderModel", name := "number", desc := "(I)J" } : Jvm.MethodName)) ∈ wT := List.mem_filter.mpr ⟨List.mem_of_getElem? (i := 603) (by decide +kernel), by decide +kernel⟩
theorem wd604 : (Jvm.Cond.code ({ cls := "RuleReaderModel", name := "number", desc := "(I)J" } : Jvm.MethodName) prog_6_method_13_code (7 : Nat) (Option.some Jvm.ClassFile.FieldType.long)) ∈ wT := List.mem_filter.mpr ⟨List.mem_of_getElem? (i := 604) (by decide +kernel), by decide +kernel⟩
theorem wd605 : (Jvm.Cond.methodLink "RuleReaderLaw" (86 : Nat) ({ cls := "RuleReaderModel", name := "wrap", desc := "(IIZ)I" } : Jvm.MethodName)) ∈ wT := List.mem_filter.mpr ⟨List.mem_of_getElem? (i := 605) (by decide +kernel), by decide +kernel⟩
theorem wd606 : (Jvm.Cond.instanceMethod ({ cls := "RuleReaderModel", name := "wrap", desc := "(IIZ)I" } : Jvm.MethodName)) ∈ wT := List.mem_filter.mpr ⟨List.mem_of_getElem? (i := 606) (by decide +kernel), by decide +kernel⟩
theorem wd607 : (Jvm.Cond.selects "RuleReaderModel" ({ cls := "RuleReaderModel", name := "wrap", desc := "(IIZ)I" } : Jvm.MethodName) ({ cls := "RuleReaderModel", name := "wrap", desc := "(IIZ)I" } : Jvm.MethodName)) ∈ wT := List.mem_filter.mpr ⟨List.mem_of_getElem? (i := 607) (by decide +kernel), by decide +kernel⟩
theorem wd608 : (Jvm.Cond.code ({ cls := "RuleReaderModel", name := "wrap", desc := "(IIZ)I" } : Jvm.MethodName) prog_6_method_17_code (6 : Nat) (Option.some Jvm.ClassFile.FieldType.int)) ∈ wT := List.mem_filter.mpr ⟨List.mem_of_getElem? (i := 608) (by decide +kernel), by decide +kernel⟩
theorem wd609 : (Jvm.Cond.methodLink "RuleReaderModel" (84 : Nat) ({ cls := "RuleReaderModel", name := "headSize", desc := "(II)I" } : Jvm.MethodName)) ∈ wT := List.mem_filter.mpr ⟨List.mem_of_getElem? (i := 609) (by decide +kernel), by decide +kernel⟩
theorem wl610 : (Jvm.Cond.privateMethod ({ cls := "RuleReaderModel", name := "headSize", desc := "(II)I" } : Jvm.MethodName)) ∈ lw_tbl := List.mem_of_getElem? (i := 610) (by decide +kernel)
theorem wd611 : (Jvm.Cond.instanceMethod ({ cls := "RuleReaderModel", name := "headSize", desc := "(II)I" } : Jvm.MethodName)) ∈ wT := List.mem_filter.mpr ⟨List.mem_of_getElem? (i := 611) (by decide +kernel), by decide +kernel⟩
theorem wd612 : (Jvm.Cond.code ({ cls := "RuleReaderModel", name := "headSize", desc := "(II)I" } : Jvm.MethodName) prog_6_method_15_code (6 : Nat) (Option.some Jvm.ClassFile.FieldType.int)) ∈ wT := List.mem_filter.mpr ⟨List.mem_of_getElem? (i := 612) (by decide +kernel), by decide +kernel⟩
theorem wd613 : (Jvm.Cond.methodLink "RuleReaderModel" (88 : Nat) ({ cls := "RuleReaderModel", name := "head", desc := "(IIIZI)I" } : Jvm.MethodName)) ∈ wT := List.mem_filter.mpr ⟨List.mem_of_getElem? (i := 613) (by decide +kernel), by decide +kernel⟩
theorem wl614 : (Jvm.Cond.privateMethod ({ cls := "RuleReaderModel", name := "head", desc := "(IIIZI)I" } : Jvm.MethodName)) ∈ lw_tbl := List.mem_of_getElem? (i := 614) (by decide +kernel)
theorem wd615 : (Jvm.Cond.instanceMethod ({ cls := "RuleReaderModel", name := "head", desc := "(IIIZI)I" } : Jvm.MethodName)) ∈ wT := List.mem_filter.mpr ⟨List.mem_of_getElem? (i := 615) (by decide +kernel), by decide +kernel⟩
theorem wd616 : (Jvm.Cond.code ({ cls := "RuleReaderModel", name := "head", desc := "(IIIZI)I" } : Jvm.MethodName) prog_6_method_16_code (11 : Nat) (Option.some Jvm.ClassFile.FieldType.int)) ∈ wT := List.mem_filter.mpr ⟨List.mem_of_getElem? (i := 616) (by decide +kernel), by decide +kernel⟩
theorem wd617 : (Jvm.Cond.methodLink "RuleReaderLaw" (92 : Nat) ({ cls := "RuleReaderModel", name := "add", desc := "(IIJ)I" } : Jvm.MethodName)) ∈ wT := List.mem_filter.mpr ⟨List.mem_of_getElem? (i := 617) (by decide +kernel), by decide +kernel⟩
theorem wd618 : (Jvm.Cond.instanceMethod ({ cls := "RuleReaderModel", name := "add", desc := "(IIJ)I" } : Jvm.MethodName)) ∈ wT := List.mem_filter.mpr ⟨List.mem_of_getElem? (i := 618) (by decide +kernel), by decide +kernel⟩
theorem wd619 : (Jvm.Cond.selects "RuleReaderModel" ({ cls := "RuleReaderModel", name := "add", desc := "(IIJ)I" } : Jvm.MethodName) ({ cls := "RuleReaderModel", name := "add", desc := "(IIJ)I" } : Jvm.MethodName)) ∈ wT := List.mem_filter.mpr ⟨List.mem_of_getElem? (i := 619) (by decide +kernel), by decide +kernel⟩
theorem wd620 : (Jvm.Cond.code ({ cls := "RuleReaderModel", name := "add", desc := "(IIJ)I" } : Jvm.MethodName) prog_6_method_18_code (7 : Nat) (Option.some Jvm.ClassFile.FieldType.int)) ∈ wT := List.mem_filter.mpr ⟨List.mem_of_getElem? (i := 620) (by decide +kernel), by decide +kernel⟩
theorem wd621 : (Jvm.Cond.methodLink "RuleReaderModel" (92 : Nat) ({ cls := "RuleReaderModel", name := "bytesOf", desc := "(J)I" } : Jvm.MethodName)) ∈ wT := List.mem_filter.mpr ⟨List.mem_of_getElem? (i := 621) (by decide +kernel), by decide +kernel⟩
theorem wl622 : (Jvm.Cond.privateMethod ({ cls := "RuleReaderModel", name := "bytesOf", desc := "(J)I" } : Jvm.MethodName)) ∈ lw_tbl := List.mem_of_getElem? (i := 622) (by decide +kernel)
theorem wd623 : (Jvm.Cond.instanceMethod ({ cls := "RuleReaderModel", name := "bytesOf", desc := "(J)I" } : Jvm.MethodName)) ∈ wT := List.mem_filter.mpr ⟨List.mem_of_getElem? (i := 623) (by decide +kernel), by decide +kernel⟩
theorem wd624 : (Jvm.Cond.code ({ cls := "RuleReaderModel", name := "bytesOf", desc := "(J)I" } : Jvm.MethodName) prog_6_method_14_code (4 : Nat) (Option.some Jvm.ClassFile.FieldType.int)) ∈ wT := List.mem_filter.mpr ⟨List.mem_of_getElem? (i := 624) (by decide +kernel), by decide +kernel⟩
theorem wd625 : (Jvm.Cond.methodLink "RuleReaderLaw" (95 : Nat) ({ cls := "RuleReaderModel", name := "compare", desc := "(II)I" } : Jvm.MethodName)) ∈ wT := List.mem_filter.mpr ⟨List.mem_of_getElem? (i := 625) (by decide +kernel), by decide +kernel⟩
theorem wd626 : (Jvm.Cond.instanceMethod ({ cls := "RuleReaderModel", name := "compare", desc := "(II)I" } : Jvm.MethodName)) ∈ wT := List.mem_filter.mpr ⟨List.mem_of_getElem? (i := 626) (by decide +kernel), by decide +kernel⟩
theorem wd627 : (Jvm.Cond.selects "RuleReaderModel" ({ cls := "RuleReaderModel", name := "compare", desc := "(II)I" } : Jvm.MethodName) ({ cls := "RuleReaderModel", name := "compare", desc := "(II)I" } : Jvm.MethodName)) ∈ wT := List.mem_filter.mpr ⟨List.mem_of_getElem? (i := 627) (by decide +kernel), by decide +kernel⟩
theorem wd628 : (Jvm.Cond.code ({ cls := "RuleReaderModel", name := "compare", desc := "(II)I" } : Jvm.MethodName) prog_6_method_19_code (6 : Nat) (Option.some Jvm.ClassFile.FieldType.int)) ∈ wT := List.mem_filter.mpr ⟨List.mem_of_getElem? (i := 628) (by decide +kernel), by decide +kernel⟩
theorem wd629 : (Jvm.Cond.methodLink "RuleReaderLaw" (98 : Nat) ({ cls := "RuleReaderModel", name := "count", desc := "(I)I" } : Jvm.MethodName)) ∈ wT := List.mem_filter.mpr ⟨List.mem_of_getElem? (i := 629) (by decide +kernel), by decide +kernel⟩
theorem wd630 : (Jvm.Cond.instanceMethod ({ cls := "RuleReaderModel", name := "count", desc := "(I)I" } : Jvm.MethodName)) ∈ wT := List.mem_filter.mpr ⟨List.mem_of_getElem? (i := 630) (by decide +kernel), by decide +kernel⟩
theorem wd631 : (Jvm.Cond.selects "RuleReaderModel" ({ cls := "RuleReaderModel", name := "count", desc := "(I)I" } : Jvm.MethodName) ({ cls := "RuleReaderModel", name := "count", desc := "(I)I" } : Jvm.MethodName)) ∈ wT := List.mem_filter.mpr ⟨List.mem_of_getElem? (i := 631) (by decide +kernel), by decide +kernel⟩
theorem wd632 : (Jvm.Cond.code ({ cls := "RuleReaderModel", name := "count", desc := "(I)I" } : Jvm.MethodName) prog_6_method_20_code (2 : Nat) (Option.some Jvm.ClassFile.FieldType.int)) ∈ wT := List.mem_filter.mpr ⟨List.mem_of_getElem? (i := 632) (by decide +kernel), by decide +kernel⟩
theorem wd633 : (Jvm.Cond.methodLink "RuleReaderLaw" (101 : Nat) ({ cls := "RuleReaderModel", name := "word", desc := "(I)J" } : Jvm.MethodName)) ∈ wT := List.mem_filter.mpr ⟨List.mem_of_getElem? (i := 633) (by decide +kernel), by decide +kernel⟩
theorem wd634 : (Jvm.Cond.instanceMethod ({ cls := "RuleReaderModel", name := "word", desc := "(I)J" } : Jvm.MethodName)) ∈ wT := List.mem_filter.mpr ⟨List.mem_of_getElem? (i := 634) (by decide +kernel), by decide +kernel⟩
theorem wd635 : (Jvm.Cond.selects "RuleReaderModel" ({ cls := "RuleReaderModel", name := "word", desc := "(I)J" } : Jvm.MethodName) ({ cls := "RuleReaderModel", name := "word", desc := "(I)J" } : Jvm.MethodName)) ∈ wT := List.mem_filter.mpr ⟨List.mem_of_getElem? (i := 635) (by decide +kernel), by decide +kernel⟩
theorem wd636 : (Jvm.Cond.code ({ cls := "RuleReaderModel", name := "word", desc := "(I)J" } : Jvm.MethodName) prog_6_method_21_code (5 : Nat) (Option.some Jvm.ClassFile.FieldType.long)) ∈ wT := List.mem_filter.mpr ⟨List.mem_of_getElem? (i := 636) (by decide +kernel), by decide +kernel⟩
theorem wd637 : (Jvm.Cond.constantLong "RuleReaderModel" (96 : Nat) (256 : Int64)) ∈ wT := List.mem_filter.mpr ⟨List.mem_of_getElem? (i := 637) (by decide +kernel), by decide +kernel⟩
theorem wd638 : (Jvm.Cond.constantLong "RuleReaderLaw" (87 : Nat) (4294967295 : Int64)) ∈ wT := List.mem_filter.mpr ⟨List.mem_of_getElem? (i := 638) (by decide +kernel), by decide +kernel⟩
theorem wd639 : (Jvm.Cond.arrayClass Jvm.ClassFile.FieldType.long) ∈ wT := List.mem_filter.mpr ⟨List.mem_of_getElem? (i := 639) (by decide +kernel), by decide +kernel⟩
theorem wd640 : (Jvm.Cond.sameMethod "java/lang/Throwable" "java/lang/Throwable" "fillInStackTrace" "(I)Ljava/lang/Throwable;") ∈ wT := List.mem_filter.mpr ⟨List.mem_of_getElem? (i := 640) (by decide +kernel), by decide +kernel⟩
def RX0 : String := "RuleReader$Bytes"
def TX0 : u_T := fun k => match k with
  | 0 => ("RuleReader$Bytes", "row", "[B", false)
  | _ => ("RuleReader$Bytes", "length", "I", false)
def tyX0 : Nat → FieldType := fun k => match k with
  | 0 => .array .byte
  | _ => .int
theorem nX0 : ∀ a, a < 2 → ∀ b, b < 2 → a ≠ b → (TX0 a).2.1 ≠ (TX0 b).2.1 := by decide +kernel
theorem tyX0_ok : ∀ k, k < 2 → parseFieldDescriptor (TX0 k).2.2.1 = some (tyX0 k) := by decide +kernel
theorem inX0 : ∀ w ∈ u_ws RX0 TX0 2, w ∈ wT := by decide +kernel
def RX1 : String := "RuleReader$Header"
def TX1 : u_T := fun k => match k with
  | 0 => ("RuleReader$Header", "kind", "I", false)
  | 1 => ("RuleReader$Header", "constructed", "Z", false)
  | 2 => ("RuleReader$Header", "tag", "I", false)
  | 3 => ("RuleReader$Header", "open", "Z", false)
  | 4 => ("RuleReader$Header", "size", "I", false)
  | _ => ("RuleReader$Header", "contents", "I", false)
def tyX1 : Nat → FieldType := fun k => match k with
  | 0 => .int
  | 1 => .boolean
  | 2 => .int
  | 3 => .boolean
  | 4 => .int
  | _ => .int
theorem nX1 : ∀ a, a < 6 → ∀ b, b < 6 → a ≠ b → (TX1 a).2.1 ≠ (TX1 b).2.1 := by decide +kernel
theorem tyX1_ok : ∀ k, k < 6 → parseFieldDescriptor (TX1 k).2.2.1 = some (tyX1 k) := by decide +kernel
theorem inX1 : ∀ w ∈ u_ws RX1 TX1 6, w ∈ wT := by decide +kernel
def RX2 : String := "RuleReader$Nodes"
def TX2 : u_T := fun k => match k with
  | 0 => ("RuleReader$Nodes", "bytes", "LRuleReader$Bytes;", true)
  | 1 => ("RuleReader$Nodes", "header", "LRuleReader$Header;", true)
  | 2 => ("RuleReader$Nodes", "rows", "[I", false)
  | 3 => ("RuleReader$Nodes", "many", "I", false)
  | _ => ("RuleReader$Nodes", "strict", "Z", false)
def tyX2 : Nat → FieldType := fun k => match k with
  | 0 => .object "RuleReader$Bytes"
  | 1 => .object "RuleReader$Header"
  | 2 => .array .int
  | 3 => .int
  | _ => .boolean
theorem nX2 : ∀ a, a < 5 → ∀ b, b < 5 → a ≠ b → (TX2 a).2.1 ≠ (TX2 b).2.1 := by decide +kernel
theorem tyX2_ok : ∀ k, k < 5 → parseFieldDescriptor (TX2 k).2.2.1 = some (tyX2 k) := by decide +kernel
theorem inX2 : ∀ w ∈ u_ws RX2 TX2 5, w ∈ wT := by decide +kernel
def RX3 : String := "RuleReader"
def TX3 : u_T := fun k => match k with
  | 0 => ("RuleReader", "tape", "LRuleReader$Bytes;", true)
  | 1 => ("RuleReader", "piece", "LRuleReader$Bytes;", true)
  | 2 => ("RuleReader", "nodes", "LRuleReader$Nodes;", false)
  | _ => ("RuleReader", "spare", "LRuleReader$Nodes;", false)
def tyX3 : Nat → FieldType := fun k => match k with
  | 0 => .object "RuleReader$Bytes"
  | 1 => .object "RuleReader$Bytes"
  | 2 => .object "RuleReader$Nodes"
  | _ => .object "RuleReader$Nodes"
theorem nX3 : ∀ a, a < 4 → ∀ b, b < 4 → a ≠ b → (TX3 a).2.1 ≠ (TX3 b).2.1 := by decide +kernel
theorem tyX3_ok : ∀ k, k < 4 → parseFieldDescriptor (TX3 k).2.2.1 = some (tyX3 k) := by decide +kernel
theorem inX3 : ∀ w ∈ u_ws RX3 TX3 4, w ∈ wT := by decide +kernel
def RX4 : String := "RuleReaderModel"
def TX4 : u_T := fun k => match k with
  | 0 => ("RuleReaderModel", "failed", "I", false)
  | 1 => ("RuleReaderModel", "tape", "[B", true)
  | 2 => ("RuleReaderModel", "taped", "I", false)
  | 3 => ("RuleReaderModel", "kept", "[B", true)
  | 4 => ("RuleReaderModel", "nodes", "I", false)
  | 5 => ("RuleReaderModel", "told", "[I", true)
  | 6 => ("RuleReaderModel", "trial", "[I", true)
  | 7 => ("RuleReaderModel", "at", "I", false)
  | 8 => ("RuleReaderModel", "made", "I", false)
  | _ => ("RuleReaderModel", "strict", "Z", false)
def tyX4 : Nat → FieldType := fun k => match k with
  | 0 => .int
  | 1 => .array .byte
  | 2 => .int
  | 3 => .array .byte
  | 4 => .int
  | 5 => .array .int
  | 6 => .array .int
  | 7 => .int
  | 8 => .int
  | _ => .boolean
theorem nX4 : ∀ a, a < 10 → ∀ b, b < 10 → a ≠ b → (TX4 a).2.1 ≠ (TX4 b).2.1 := by decide +kernel
theorem tyX4_ok : ∀ k, k < 10 → parseFieldDescriptor (TX4 k).2.2.1 = some (tyX4 k) := by decide +kernel
theorem inX4 : ∀ w ∈ u_ws RX4 TX4 10, w ∈ wT := by decide +kernel
def RL : String := "RuleReaderLaw"
def RJA : String := "java/util/Arrays"
def RJI : String := "java/lang/Integer"
abbrev vwCl : List vw_C := [(RX0, TX0, 2), (RX1, TX1, 6), (RX2, TX2, 5), (RX3, TX3, 4), (RX4, TX4, 10)]
abbrev cX3_init : ByteArray := prog_1_method_1_code
def yX3_init : MethodName := ⟨RX3, "<init>", "()V"⟩
def wsX3_init : List Cond := .code yX3_init cX3_init 1 none :: wT
abbrev cX0_init : ByteArray := prog_2_method_1_code
def yX0_init : MethodName := ⟨RX0, "<init>", "()V"⟩
def wsX0_init : List Cond := .code yX0_init cX0_init 1 none :: wT
abbrev cX2_init : ByteArray := prog_4_method_1_code
def yX2_init : MethodName := ⟨RX2, "<init>", "()V"⟩
def wsX2_init : List Cond := .code yX2_init cX2_init 1 none :: wT
abbrev cX1_init : ByteArray := prog_3_method_1_code
def yX1_init : MethodName := ⟨RX1, "<init>", "()V"⟩
def wsX1_init : List Cond := .code yX1_init cX1_init 1 none :: wT
abbrev cL_feed : ByteArray := method_3_code
def yL_feed : MethodName := ⟨RL, "feed", "(LRuleReader;IIIII[J)I"⟩
def wsL_feed : List Cond := .codeWith yL_feed cL_feed 8 (some .int) [(0, 16, 19, 13)] :: wT
abbrev cX3_feed : ByteArray := prog_1_method_2_code
def yX3_feed : MethodName := ⟨RX3, "feed", "(IIIII)I"⟩
def wsX3_feed : List Cond := .code yX3_feed cX3_feed 6 (some .int) :: wT
abbrev cX0_hasRoomFor : ByteArray := prog_2_method_3_code
def yX0_hasRoomFor : MethodName := ⟨RX0, "hasRoomFor", "(I)Z"⟩
def wsX0_hasRoomFor : List Cond := .code yX0_hasRoomFor cX0_hasRoomFor 2 (some .boolean) :: wT
abbrev cX0_appendNumber : ByteArray := prog_2_method_7_code
def yX0_appendNumber : MethodName := ⟨RX0, "appendNumber", "(JI)V"⟩
def wsX0_appendNumber : List Cond := .code yX0_appendNumber cX0_appendNumber 5 none :: wT
abbrev cX0_append : ByteArray := prog_2_method_6_code
def yX0_append : MethodName := ⟨RX0, "append", "(I)V"⟩
def wsX0_append : List Cond := .code yX0_append cX0_append 2 none :: wT
abbrev cX0_lengthen : ByteArray := prog_2_method_13_code
def yX0_lengthen : MethodName := ⟨RX0, "lengthen", "(I)V"⟩
def wsX0_lengthen : List Cond := .code yX0_lengthen cX0_lengthen 3 none :: wT
abbrev cJA_copyB : ByteArray := prog_19_method_121_code
def yJA_copyB : MethodName := ⟨RJA, "copyOf", "([BI)[B"⟩
def wsJA_copyB : List Cond := .code yJA_copyB cJA_copyB 3 (some (.array .byte)) :: wT
abbrev cX0_set : ByteArray := prog_2_method_12_code
def yX0_set : MethodName := ⟨RX0, "set", "(II)V"⟩
def wsX0_set : List Cond := .code yX0_set cX0_set 3 none :: wT
abbrev cX0_size : ByteArray := prog_2_method_2_code
def yX0_size : MethodName := ⟨RX0, "size", "()I"⟩
def wsX0_size : List Cond := .code yX0_size cX0_size 1 (some .int) :: wT
abbrev cL_end : ByteArray := method_4_code
def yL_end : MethodName := ⟨RL, "end", "(LRuleReader;I[J)I"⟩
def wsL_end : List Cond := .codeWith yL_end cL_end 4 (some .int) [(0, 9, 12, 19)] :: wT
abbrev cX3_end : ByteArray := prog_1_method_3_code
def yX3_end : MethodName := ⟨RX3, "end", "(I)I"⟩
def wsX3_end : List Cond := .code yX3_end cX3_end 2 (some .int) :: wT
abbrev cX0_cut : ByteArray := prog_2_method_5_code
def yX0_cut : MethodName := ⟨RX0, "cut", "(I)V"⟩
def wsX0_cut : List Cond := .code yX0_cut cX0_cut 2 none :: wT
abbrev cL_read : ByteArray := method_5_code
def yL_read : MethodName := ⟨RL, "read", "(LRuleReader;Z[J)I"⟩
def wsL_read : List Cond := .codeWith yL_read cL_read 4 (some .int) [(0, 9, 12, 25)] :: wT
abbrev cX3_read : ByteArray := prog_1_method_4_code
def yX3_read : MethodName := ⟨RX3, "read", "(Z)I"⟩
def wsX3_read : List Cond := .code yX3_read cX3_read 3 (some .int) :: wT
abbrev cX2_layOut : ByteArray := prog_4_method_5_code
def yX2_layOut : MethodName := ⟨RX2, "layOut", "(LRuleReader$Bytes;Z)Z"⟩
def wsX2_layOut : List Cond := .code yX2_layOut cX2_layOut 4 (some .boolean) :: wT
abbrev cX0_become : ByteArray := prog_2_method_10_code
def yX0_become : MethodName := ⟨RX0, "become", "(LRuleReader$Bytes;)V"⟩
def wsX0_become : List Cond := .code yX0_become cX0_become 2 none :: wT
abbrev cX0_putBehind : ByteArray := prog_2_method_8_code
def yX0_putBehind : MethodName := ⟨RX0, "putBehind", "(LRuleReader$Bytes;)V"⟩
def wsX0_putBehind : List Cond := .code yX0_putBehind cX0_putBehind 3 none :: wT
abbrev cX0_layOver : ByteArray := prog_2_method_11_code
def yX0_layOver : MethodName := ⟨RX0, "layOver", "([BII)V"⟩
def wsX0_layOver : List Cond := .code yX0_layOver cX0_layOver 4 none :: wT
abbrev cX2_layOutValue : ByteArray := prog_4_method_12_code
def yX2_layOutValue : MethodName := ⟨RX2, "layOutValue", "(IIII)I"⟩
def wsX2_layOutValue : List Cond := .code yX2_layOutValue cX2_layOutValue 8 (some .int) :: wT
abbrev cX1_decode : ByteArray := prog_3_method_2_code
def yX1_decode : MethodName := ⟨RX1, "decode", "(LRuleReader$Bytes;IIZ)Z"⟩
def wsX1_decode : List Cond := .code yX1_decode cX1_decode 7 (some .boolean) :: wT
abbrev cX1_decodeIdentifier : ByteArray := prog_3_method_3_code
def yX1_decodeIdentifier : MethodName := ⟨RX1, "decodeIdentifier", "(LRuleReader$Bytes;II)I"⟩
def wsX1_decodeIdentifier : List Cond := .code yX1_decodeIdentifier cX1_decodeIdentifier 5 (some .int) :: wT
abbrev cX0_at : ByteArray := prog_2_method_4_code
def yX0_at : MethodName := ⟨RX0, "at", "(I)I"⟩
def wsX0_at : List Cond := .code yX0_at cX0_at 2 (some .int) :: wT
abbrev cX1_decodeLongNumber : ByteArray := prog_3_method_4_code
def yX1_decodeLongNumber : MethodName := ⟨RX1, "decodeLongNumber", "(LRuleReader$Bytes;II)I"⟩
def wsX1_decodeLongNumber : List Cond := .code yX1_decodeLongNumber cX1_decodeLongNumber 8 (some .int) :: wT
abbrev cX1_decodeLongLength : ByteArray := prog_3_method_5_code
def yX1_decodeLongLength : MethodName := ⟨RX1, "decodeLongLength", "(LRuleReader$Bytes;IIZ)Z"⟩
def wsX1_decodeLongLength : List Cond := .code yX1_decodeLongLength cX1_decodeLongLength 7 (some .boolean) :: wT
abbrev cX2_enter : ByteArray := prog_4_method_15_code
def yX2_enter : MethodName := ⟨RX2, "enter", "(II)I"⟩
def wsX2_enter : List Cond := .code yX2_enter cX2_enter 4 (some .int) :: wT
abbrev cJA_copyI : ByteArray := prog_19_method_123_code
def yJA_copyI : MethodName := ⟨RJA, "copyOf", "([II)[I"⟩
def wsJA_copyI : List Cond := .code yJA_copyI cJA_copyI 3 (some (.array .int)) :: wT
abbrev cX2_put : ByteArray := prog_4_method_11_code
def yX2_put : MethodName := ⟨RX2, "put", "(III)V"⟩
def wsX2_put : List Cond := .code yX2_put cX2_put 5 none :: wT
abbrev cX2_indexOf : ByteArray := prog_4_method_10_code
def yX2_indexOf : MethodName := ⟨RX2, "indexOf", "(II)I"⟩
def wsX2_indexOf : List Cond := .code yX2_indexOf cX2_indexOf 3 (some .int) :: wT
abbrev cX2_has : ByteArray := prog_4_method_3_code
def yX2_has : MethodName := ⟨RX2, "has", "(I)Z"⟩
def wsX2_has : List Cond := .code yX2_has cX2_has 2 (some .boolean) :: wT
abbrev cX2_get : ByteArray := prog_4_method_4_code
def yX2_get : MethodName := ⟨RX2, "get", "(II)I"⟩
def wsX2_get : List Cond := .code yX2_get cX2_get 4 (some .int) :: wT
abbrev cX2_layOutUpToZeros : ByteArray := prog_4_method_14_code
def yX2_layOutUpToZeros : MethodName := ⟨RX2, "layOutUpToZeros", "(IIII)I"⟩
def wsX2_layOutUpToZeros : List Cond := .code yX2_layOutUpToZeros cX2_layOutUpToZeros 7 (some .int) :: wT
abbrev cX2_layOutUpTo : ByteArray := prog_4_method_13_code
def yX2_layOutUpTo : MethodName := ⟨RX2, "layOutUpTo", "(IIII)Z"⟩
def wsX2_layOutUpTo : List Cond := .code yX2_layOutUpTo cX2_layOutUpTo 7 (some .boolean) :: wT
abbrev cX2_size : ByteArray := prog_4_method_2_code
def yX2_size : MethodName := ⟨RX2, "size", "()I"⟩
def wsX2_size : List Cond := .code yX2_size cX2_size 1 (some .int) :: wT
abbrev cL_node : ByteArray := method_6_code
def yL_node : MethodName := ⟨RL, "node", "(LRuleReader;II[J)I"⟩
def wsL_node : List Cond := .codeWith yL_node cL_node 5 (some .int) [(0, 10, 13, 19)] :: wT
abbrev cX3_node : ByteArray := prog_1_method_5_code
def yX3_node : MethodName := ⟨RX3, "node", "(II)I"⟩
def wsX3_node : List Cond := .code yX3_node cX3_node 3 (some .int) :: wT
abbrev cL_number : ByteArray := method_7_code
def yL_number : MethodName := ⟨RL, "number", "(LRuleReader;I[J)I"⟩
def wsL_number : List Cond := .codeWith yL_number cL_number 4 (some .int) [(0, 8, 11, 19), (0, 8, 14, 25), (0, 8, 17, 35)] :: wT
abbrev cX3_number : ByteArray := prog_1_method_6_code
def yX3_number : MethodName := ⟨RX3, "number", "(I)J"⟩
def wsX3_number : List Cond := .code yX3_number cX3_number 2 (some .long) :: wT
abbrev cX2_holdsNumber : ByteArray := prog_4_method_6_code
def yX2_holdsNumber : MethodName := ⟨RX2, "holdsNumber", "(I)Z"⟩
def wsX2_holdsNumber : List Cond := .code yX2_holdsNumber cX2_holdsNumber 4 (some .boolean) :: wT
abbrev cX2_contentsAt : ByteArray := prog_4_method_9_code
def yX2_contentsAt : MethodName := ⟨RX2, "contentsAt", "(II)I"⟩
def wsX2_contentsAt : List Cond := .code yX2_contentsAt cX2_contentsAt 3 (some .int) :: wT
abbrev cX2_signedContents : ByteArray := prog_4_method_7_code
def yX2_signedContents : MethodName := ⟨RX2, "signedContents", "(I)J"⟩
def wsX2_signedContents : List Cond := .code yX2_signedContents cX2_signedContents 6 (some .long) :: wT
abbrev cL_wrap : ByteArray := method_8_code
def yL_wrap : MethodName := ⟨RL, "wrap", "(LRuleReader;IIZ[J)I"⟩
def wsL_wrap : List Cond := .codeWith yL_wrap cL_wrap 6 (some .int) [(0, 12, 15, 19), (0, 12, 19, 13)] :: wT
abbrev cX3_wrap : ByteArray := prog_1_method_7_code
def yX3_wrap : MethodName := ⟨RX3, "wrap", "(IIZ)I"⟩
def wsX3_wrap : List Cond := .code yX3_wrap cX3_wrap 4 (some .int) :: wT
abbrev cX3_isIdentifier : ByteArray := prog_1_method_12_code
def yX3_isIdentifier : MethodName := ⟨RX3, "isIdentifier", "(II)Z"⟩
def wsX3_isIdentifier : List Cond := .code yX3_isIdentifier cX3_isIdentifier 2 (some .boolean) :: wT
abbrev cX3_writeIdentifier : ByteArray := prog_1_method_13_code
def yX3_writeIdentifier : MethodName := ⟨RX3, "writeIdentifier", "(IIZ)V"⟩
def wsX3_writeIdentifier : List Cond := .code yX3_writeIdentifier cX3_writeIdentifier 6 none :: wT
abbrev cX3_writeLength : ByteArray := prog_1_method_14_code
def yX3_writeLength : MethodName := ⟨RX3, "writeLength", "(I)V"⟩
def wsX3_writeLength : List Cond := .code yX3_writeLength cX3_writeLength 2 none :: wT
abbrev cX0_putInFront : ByteArray := prog_2_method_9_code
def yX0_putInFront : MethodName := ⟨RX0, "putInFront", "(LRuleReader$Bytes;)V"⟩
def wsX0_putInFront : List Cond := .code yX0_putInFront cX0_putInFront 4 none :: wT
abbrev cL_add : ByteArray := method_9_code
def yL_add : MethodName := ⟨RL, "add", "(LRuleReader;IIJ[J)I"⟩
def wsL_add : List Cond := .codeWith yL_add cL_add 7 (some .int) [(0, 12, 15, 19), (0, 12, 19, 13)] :: wT
abbrev cX3_add : ByteArray := prog_1_method_8_code
def yX3_add : MethodName := ⟨RX3, "add", "(IIJ)I"⟩
def wsX3_add : List Cond := .code yX3_add cX3_add 6 (some .int) :: wT
abbrev cX3_fewestBytes : ByteArray := prog_1_method_15_code
def yX3_fewestBytes : MethodName := ⟨RX3, "fewestBytes", "(J)I"⟩
def wsX3_fewestBytes : List Cond := .code yX3_fewestBytes cX3_fewestBytes 5 (some .int) :: wT
abbrev cL_compare : ByteArray := method_10_code
def yL_compare : MethodName := ⟨RL, "compare", "(LRuleReader;II[J)I"⟩
def wsL_compare : List Cond := .codeWith yL_compare cL_compare 5 (some .int) [(0, 10, 13, 19)] :: wT
abbrev cX3_compare : ByteArray := prog_1_method_9_code
def yX3_compare : MethodName := ⟨RX3, "compare", "(II)I"⟩
def wsX3_compare : List Cond := .code yX3_compare cX3_compare 3 (some .int) :: wT
abbrev cX2_orderOf : ByteArray := prog_4_method_8_code
def yX2_orderOf : MethodName := ⟨RX2, "orderOf", "(II)I"⟩
def wsX2_orderOf : List Cond := .code yX2_orderOf cX2_orderOf 6 (some .int) :: wT
abbrev cJI_compare : ByteArray := prog_12_method_40_code
def yJI_compare : MethodName := ⟨RJI, "compare", "(II)I"⟩
def wsJI_compare : List Cond := .code yJI_compare cJI_compare 2 (some .int) :: wT
abbrev cL_count : ByteArray := method_11_code
def yL_count : MethodName := ⟨RL, "count", "(LRuleReader;I[J)I"⟩
def wsL_count : List Cond := .codeWith yL_count cL_count 4 (some .int) [(0, 9, 12, 19)] :: wT
abbrev cX3_count : ByteArray := prog_1_method_10_code
def yX3_count : MethodName := ⟨RX3, "count", "(I)I"⟩
def wsX3_count : List Cond := .code yX3_count cX3_count 2 (some .int) :: wT
abbrev cL_word : ByteArray := method_12_code
def yL_word : MethodName := ⟨RL, "word", "(LRuleReader;I[J)I"⟩
def wsL_word : List Cond := .codeWith yL_word cL_word 4 (some .int) [(0, 8, 11, 13)] :: wT
abbrev cX3_word : ByteArray := prog_1_method_11_code
def yX3_word : MethodName := ⟨RX3, "word", "(I)J"⟩
def wsX3_word : List Cond := .code yX3_word cX3_word 5 (some .long) :: wT
abbrev cX4_init : ByteArray := prog_6_method_1_code
def yX4_init : MethodName := ⟨RX4, "<init>", "()V"⟩
def wsX4_init : List Cond := .code yX4_init cX4_init 1 none :: wT
abbrev cX4_thrown : ByteArray := prog_6_method_2_code
def yX4_thrown : MethodName := ⟨RX4, "thrown", "()I"⟩
def wsX4_thrown : List Cond := .code yX4_thrown cX4_thrown 1 (some .int) :: wT
abbrev cX4_feed : ByteArray := prog_6_method_4_code
def yX4_feed : MethodName := ⟨RX4, "feed", "(IIIII)I"⟩
def wsX4_feed : List Cond := .code yX4_feed cX4_feed 8 (some .int) :: wT
abbrev cX4_fail : ByteArray := prog_6_method_3_code
def yX4_fail : MethodName := ⟨RX4, "fail", "(I)I"⟩
def wsX4_fail : List Cond := .code yX4_fail cX4_fail 2 (some .int) :: wT
abbrev cX4_end : ByteArray := prog_6_method_5_code
def yX4_end : MethodName := ⟨RX4, "end", "(I)I"⟩
def wsX4_end : List Cond := .code yX4_end cX4_end 2 (some .int) :: wT
abbrev cX4_read : ByteArray := prog_6_method_10_code
def yX4_read : MethodName := ⟨RX4, "read", "(Z)I"⟩
def wsX4_read : List Cond := .code yX4_read cX4_read 3 (some .int) :: wT
abbrev cX4_value : ByteArray := prog_6_method_7_code
def yX4_value : MethodName := ⟨RX4, "value", "(III)Z"⟩
def wsX4_value : List Cond := .code yX4_value cX4_value 11 (some .boolean) :: wT
abbrev cX4_next : ByteArray := prog_6_method_6_code
def yX4_next : MethodName := ⟨RX4, "next", "()I"⟩
def wsX4_next : List Cond := .code yX4_next cX4_next 2 (some .int) :: wT
abbrev cX4_length : ByteArray := prog_6_method_9_code
def yX4_length : MethodName := ⟨RX4, "length", "()J"⟩
def wsX4_length : List Cond := .code yX4_length cX4_length 6 (some .long) :: wT
abbrev cX4_open : ByteArray := prog_6_method_8_code
def yX4_open : MethodName := ⟨RX4, "open", "(III)Z"⟩
def wsX4_open : List Cond := .code yX4_open cX4_open 4 (some .boolean) :: wT
abbrev cX4_node : ByteArray := prog_6_method_12_code
def yX4_node : MethodName := ⟨RX4, "node", "(II)I"⟩
def wsX4_node : List Cond := .code yX4_node cX4_node 3 (some .int) :: wT
abbrev cX4_out : ByteArray := prog_6_method_11_code
def yX4_out : MethodName := ⟨RX4, "out", "(I)Z"⟩
def wsX4_out : List Cond := .code yX4_out cX4_out 2 (some .boolean) :: wT
abbrev cX4_number : ByteArray := prog_6_method_13_code
def yX4_number : MethodName := ⟨RX4, "number", "(I)J"⟩
def wsX4_number : List Cond := .code yX4_number cX4_number 7 (some .long) :: wT
abbrev cX4_wrap : ByteArray := prog_6_method_17_code
def yX4_wrap : MethodName := ⟨RX4, "wrap", "(IIZ)I"⟩
def wsX4_wrap : List Cond := .code yX4_wrap cX4_wrap 6 (some .int) :: wT
abbrev cX4_headSize : ByteArray := prog_6_method_15_code
def yX4_headSize : MethodName := ⟨RX4, "headSize", "(II)I"⟩
def wsX4_headSize : List Cond := .code yX4_headSize cX4_headSize 6 (some .int) :: wT
abbrev cX4_head : ByteArray := prog_6_method_16_code
def yX4_head : MethodName := ⟨RX4, "head", "(IIIZI)I"⟩
def wsX4_head : List Cond := .code yX4_head cX4_head 11 (some .int) :: wT
abbrev cX4_add : ByteArray := prog_6_method_18_code
def yX4_add : MethodName := ⟨RX4, "add", "(IIJ)I"⟩
def wsX4_add : List Cond := .code yX4_add cX4_add 7 (some .int) :: wT
abbrev cX4_bytesOf : ByteArray := prog_6_method_14_code
def yX4_bytesOf : MethodName := ⟨RX4, "bytesOf", "(J)I"⟩
def wsX4_bytesOf : List Cond := .code yX4_bytesOf cX4_bytesOf 4 (some .int) :: wT
abbrev cX4_compare : ByteArray := prog_6_method_19_code
def yX4_compare : MethodName := ⟨RX4, "compare", "(II)I"⟩
def wsX4_compare : List Cond := .code yX4_compare cX4_compare 6 (some .int) :: wT
abbrev cX4_count : ByteArray := prog_6_method_20_code
def yX4_count : MethodName := ⟨RX4, "count", "(I)I"⟩
def wsX4_count : List Cond := .code yX4_count cX4_count 2 (some .int) :: wT
abbrev cX4_word : ByteArray := prog_6_method_21_code
def yX4_word : MethodName := ⟨RX4, "word", "(I)J"⟩
def wsX4_word : List Cond := .code yX4_word cX4_word 5 (some .long) :: wT
abbrev cL_law : ByteArray := code
def yL_law : MethodName := ⟨RL, "law", "([I)Z"⟩
