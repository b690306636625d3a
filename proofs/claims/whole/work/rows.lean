section
-- ===== PART A: goes FIRST, ahead of the names: the tables' words, and 'selects' of the private methods out of them =====
/-- a private method of a class that the tables say can be made, by its rows of tables_1 -/
def lw_okq (q : MethodName × Nat) : Prop := (q.1.cls ≠ "java/lang/invoke/MethodHandle" ∧ q.1.cls ≠ "java/lang/invoke/VarHandle") ∧ Cond.instantiable q.1.cls q.2 ∈ tables_1 ∧ Cond.privateMethod q.1 ∈ tables_1 ∧ Cond.instanceMethod q.1 ∈ tables_1
theorem lw_p0 : lw_okq (⟨"java/lang/Throwable", "fillInStackTrace", "(I)Ljava/lang/Throwable;"⟩, 6) := ⟨⟨by decide +kernel, by decide +kernel⟩, List.mem_of_getElem? (i := 160) (by decide +kernel), List.mem_of_getElem? (i := 158) (by decide +kernel), List.mem_of_getElem? (i := 159) (by decide +kernel)⟩
theorem lw_p1 : lw_okq (⟨"RuleReader$Bytes", "lengthen", "(I)V"⟩, 2) := ⟨⟨by decide +kernel, by decide +kernel⟩, List.mem_of_getElem? (i := 26) (by decide +kernel), List.mem_of_getElem? (i := 201) (by decide +kernel), List.mem_of_getElem? (i := 202) (by decide +kernel)⟩
theorem lw_p2 : lw_okq (⟨"RuleReader$Bytes", "set", "(II)V"⟩, 2) := ⟨⟨by decide +kernel, by decide +kernel⟩, List.mem_of_getElem? (i := 26) (by decide +kernel), List.mem_of_getElem? (i := 222) (by decide +kernel), List.mem_of_getElem? (i := 223) (by decide +kernel)⟩
theorem lw_p3 : lw_okq (⟨"RuleReader$Bytes", "layOver", "([BII)V"⟩, 2) := ⟨⟨by decide +kernel, by decide +kernel⟩, List.mem_of_getElem? (i := 26) (by decide +kernel), List.mem_of_getElem? (i := 279) (by decide +kernel), List.mem_of_getElem? (i := 280) (by decide +kernel)⟩
theorem lw_p4 : lw_okq (⟨"RuleReader$Nodes", "layOutValue", "(IIII)I"⟩, 5) := ⟨⟨by decide +kernel, by decide +kernel⟩, List.mem_of_getElem? (i := 40) (by decide +kernel), List.mem_of_getElem? (i := 285) (by decide +kernel), List.mem_of_getElem? (i := 286) (by decide +kernel)⟩
theorem lw_p5 : lw_okq (⟨"RuleReader$Header", "decodeIdentifier", "(LRuleReader$Bytes;II)I"⟩, 6) := ⟨⟨by decide +kernel, by decide +kernel⟩, List.mem_of_getElem? (i := 48) (by decide +kernel), List.mem_of_getElem? (i := 293) (by decide +kernel), List.mem_of_getElem? (i := 294) (by decide +kernel)⟩
theorem lw_p6 : lw_okq (⟨"RuleReader$Header", "decodeLongNumber", "(LRuleReader$Bytes;II)I"⟩, 6) := ⟨⟨by decide +kernel, by decide +kernel⟩, List.mem_of_getElem? (i := 48) (by decide +kernel), List.mem_of_getElem? (i := 301) (by decide +kernel), List.mem_of_getElem? (i := 302) (by decide +kernel)⟩
theorem lw_p7 : lw_okq (⟨"RuleReader$Header", "decodeLongLength", "(LRuleReader$Bytes;IIZ)Z"⟩, 6) := ⟨⟨by decide +kernel, by decide +kernel⟩, List.mem_of_getElem? (i := 48) (by decide +kernel), List.mem_of_getElem? (i := 308) (by decide +kernel), List.mem_of_getElem? (i := 309) (by decide +kernel)⟩
theorem lw_p8 : lw_okq (⟨"RuleReader$Nodes", "enter", "(II)I"⟩, 5) := ⟨⟨by decide +kernel, by decide +kernel⟩, List.mem_of_getElem? (i := 40) (by decide +kernel), List.mem_of_getElem? (i := 312) (by decide +kernel), List.mem_of_getElem? (i := 313) (by decide +kernel)⟩
theorem lw_p9 : lw_okq (⟨"RuleReader$Nodes", "put", "(III)V"⟩, 5) := ⟨⟨by decide +kernel, by decide +kernel⟩, List.mem_of_getElem? (i := 40) (by decide +kernel), List.mem_of_getElem? (i := 325) (by decide +kernel), List.mem_of_getElem? (i := 326) (by decide +kernel)⟩
theorem lw_p10 : lw_okq (⟨"RuleReader$Nodes", "indexOf", "(II)I"⟩, 5) := ⟨⟨by decide +kernel, by decide +kernel⟩, List.mem_of_getElem? (i := 40) (by decide +kernel), List.mem_of_getElem? (i := 329) (by decide +kernel), List.mem_of_getElem? (i := 330) (by decide +kernel)⟩
theorem lw_p11 : lw_okq (⟨"RuleReader$Nodes", "layOutUpToZeros", "(IIII)I"⟩, 5) := ⟨⟨by decide +kernel, by decide +kernel⟩, List.mem_of_getElem? (i := 40) (by decide +kernel), List.mem_of_getElem? (i := 341) (by decide +kernel), List.mem_of_getElem? (i := 342) (by decide +kernel)⟩
theorem lw_p12 : lw_okq (⟨"RuleReader$Nodes", "layOutUpTo", "(IIII)Z"⟩, 5) := ⟨⟨by decide +kernel, by decide +kernel⟩, List.mem_of_getElem? (i := 40) (by decide +kernel), List.mem_of_getElem? (i := 346) (by decide +kernel), List.mem_of_getElem? (i := 347) (by decide +kernel)⟩
theorem lw_p13 : lw_okq (⟨"RuleReader$Nodes", "contentsAt", "(II)I"⟩, 5) := ⟨⟨by decide +kernel, by decide +kernel⟩, List.mem_of_getElem? (i := 40) (by decide +kernel), List.mem_of_getElem? (i := 394) (by decide +kernel), List.mem_of_getElem? (i := 395) (by decide +kernel)⟩
theorem lw_p14 : lw_okq (⟨"RuleReader", "writeIdentifier", "(IIZ)V"⟩, 4) := ⟨⟨by decide +kernel, by decide +kernel⟩, List.mem_of_getElem? (i := 18) (by decide +kernel), List.mem_of_getElem? (i := 430) (by decide +kernel), List.mem_of_getElem? (i := 431) (by decide +kernel)⟩
theorem lw_p15 : lw_okq (⟨"RuleReader", "writeLength", "(I)V"⟩, 4) := ⟨⟨by decide +kernel, by decide +kernel⟩, List.mem_of_getElem? (i := 18) (by decide +kernel), List.mem_of_getElem? (i := 435) (by decide +kernel), List.mem_of_getElem? (i := 436) (by decide +kernel)⟩
def lw_privs_1 : List (MethodName × Nat) := [(⟨"java/lang/Throwable", "fillInStackTrace", "(I)Ljava/lang/Throwable;"⟩, 6), (⟨"RuleReader$Bytes", "lengthen", "(I)V"⟩, 2), (⟨"RuleReader$Bytes", "set", "(II)V"⟩, 2), (⟨"RuleReader$Bytes", "layOver", "([BII)V"⟩, 2), (⟨"RuleReader$Nodes", "layOutValue", "(IIII)I"⟩, 5), (⟨"RuleReader$Header", "decodeIdentifier", "(LRuleReader$Bytes;II)I"⟩, 6), (⟨"RuleReader$Header", "decodeLongNumber", "(LRuleReader$Bytes;II)I"⟩, 6), (⟨"RuleReader$Header", "decodeLongLength", "(LRuleReader$Bytes;IIZ)Z"⟩, 6), (⟨"RuleReader$Nodes", "enter", "(II)I"⟩, 5), (⟨"RuleReader$Nodes", "put", "(III)V"⟩, 5), (⟨"RuleReader$Nodes", "indexOf", "(II)I"⟩, 5), (⟨"RuleReader$Nodes", "layOutUpToZeros", "(IIII)I"⟩, 5), (⟨"RuleReader$Nodes", "layOutUpTo", "(IIII)Z"⟩, 5), (⟨"RuleReader$Nodes", "contentsAt", "(II)I"⟩, 5), (⟨"RuleReader", "writeIdentifier", "(IIZ)V"⟩, 4), (⟨"RuleReader", "writeLength", "(I)V"⟩, 4)]
theorem lw_r1 : ∀ q ∈ lw_privs_1, lw_okq q := List.forall_mem_cons.mpr ⟨lw_p0, List.forall_mem_cons.mpr ⟨lw_p1, List.forall_mem_cons.mpr ⟨lw_p2, List.forall_mem_cons.mpr ⟨lw_p3, List.forall_mem_cons.mpr ⟨lw_p4, List.forall_mem_cons.mpr ⟨lw_p5, List.forall_mem_cons.mpr ⟨lw_p6, List.forall_mem_cons.mpr ⟨lw_p7, List.forall_mem_cons.mpr ⟨lw_p8, List.forall_mem_cons.mpr ⟨lw_p9, List.forall_mem_cons.mpr ⟨lw_p10, List.forall_mem_cons.mpr ⟨lw_p11, List.forall_mem_cons.mpr ⟨lw_p12, List.forall_mem_cons.mpr ⟨lw_p13, List.forall_mem_cons.mpr ⟨lw_p14, List.forall_mem_cons.mpr ⟨lw_p15, fun _ h => absurd h List.not_mem_nil⟩⟩⟩⟩⟩⟩⟩⟩⟩⟩⟩⟩⟩⟩⟩⟩
theorem lw_p16 : lw_okq (⟨"RuleReaderModel", "fail", "(I)I"⟩, 10) := ⟨⟨by decide +kernel, by decide +kernel⟩, List.mem_of_getElem? (i := 487) (by decide +kernel), List.mem_of_getElem? (i := 532) (by decide +kernel), List.mem_of_getElem? (i := 533) (by decide +kernel)⟩
theorem lw_p17 : lw_okq (⟨"RuleReaderModel", "value", "(III)Z"⟩, 10) := ⟨⟨by decide +kernel, by decide +kernel⟩, List.mem_of_getElem? (i := 487) (by decide +kernel), List.mem_of_getElem? (i := 544) (by decide +kernel), List.mem_of_getElem? (i := 545) (by decide +kernel)⟩
theorem lw_p18 : lw_okq (⟨"RuleReaderModel", "next", "()I"⟩, 10) := ⟨⟨by decide +kernel, by decide +kernel⟩, List.mem_of_getElem? (i := 487) (by decide +kernel), List.mem_of_getElem? (i := 548) (by decide +kernel), List.mem_of_getElem? (i := 549) (by decide +kernel)⟩
theorem lw_p19 : lw_okq (⟨"RuleReaderModel", "length", "()J"⟩, 10) := ⟨⟨by decide +kernel, by decide +kernel⟩, List.mem_of_getElem? (i := 487) (by decide +kernel), List.mem_of_getElem? (i := 558) (by decide +kernel), List.mem_of_getElem? (i := 559) (by decide +kernel)⟩
theorem lw_p20 : lw_okq (⟨"RuleReaderModel", "open", "(III)Z"⟩, 10) := ⟨⟨by decide +kernel, by decide +kernel⟩, List.mem_of_getElem? (i := 487) (by decide +kernel), List.mem_of_getElem? (i := 565) (by decide +kernel), List.mem_of_getElem? (i := 566) (by decide +kernel)⟩
theorem lw_p21 : lw_okq (⟨"RuleReaderModel", "out", "(I)Z"⟩, 10) := ⟨⟨by decide +kernel, by decide +kernel⟩, List.mem_of_getElem? (i := 487) (by decide +kernel), List.mem_of_getElem? (i := 573) (by decide +kernel), List.mem_of_getElem? (i := 574) (by decide +kernel)⟩
theorem lw_p22 : lw_okq (⟨"RuleReaderModel", "headSize", "(II)I"⟩, 10) := ⟨⟨by decide +kernel, by decide +kernel⟩, List.mem_of_getElem? (i := 487) (by decide +kernel), List.mem_of_getElem? (i := 585) (by decide +kernel), List.mem_of_getElem? (i := 586) (by decide +kernel)⟩
theorem lw_p23 : lw_okq (⟨"RuleReaderModel", "head", "(IIIZI)I"⟩, 10) := ⟨⟨by decide +kernel, by decide +kernel⟩, List.mem_of_getElem? (i := 487) (by decide +kernel), List.mem_of_getElem? (i := 589) (by decide +kernel), List.mem_of_getElem? (i := 590) (by decide +kernel)⟩
theorem lw_p24 : lw_okq (⟨"RuleReaderModel", "bytesOf", "(J)I"⟩, 10) := ⟨⟨by decide +kernel, by decide +kernel⟩, List.mem_of_getElem? (i := 487) (by decide +kernel), List.mem_of_getElem? (i := 597) (by decide +kernel), List.mem_of_getElem? (i := 598) (by decide +kernel)⟩
def lw_privs_2 : List (MethodName × Nat) := [(⟨"RuleReaderModel", "fail", "(I)I"⟩, 10), (⟨"RuleReaderModel", "value", "(III)Z"⟩, 10), (⟨"RuleReaderModel", "next", "()I"⟩, 10), (⟨"RuleReaderModel", "length", "()J"⟩, 10), (⟨"RuleReaderModel", "open", "(III)Z"⟩, 10), (⟨"RuleReaderModel", "out", "(I)Z"⟩, 10), (⟨"RuleReaderModel", "headSize", "(II)I"⟩, 10), (⟨"RuleReaderModel", "head", "(IIIZI)I"⟩, 10), (⟨"RuleReaderModel", "bytesOf", "(J)I"⟩, 10)]
theorem lw_r2 : ∀ q ∈ lw_privs_2, lw_okq q := List.forall_mem_cons.mpr ⟨lw_p16, List.forall_mem_cons.mpr ⟨lw_p17, List.forall_mem_cons.mpr ⟨lw_p18, List.forall_mem_cons.mpr ⟨lw_p19, List.forall_mem_cons.mpr ⟨lw_p20, List.forall_mem_cons.mpr ⟨lw_p21, List.forall_mem_cons.mpr ⟨lw_p22, List.forall_mem_cons.mpr ⟨lw_p23, List.forall_mem_cons.mpr ⟨lw_p24, fun _ h => absurd h List.not_mem_nil⟩⟩⟩⟩⟩⟩⟩⟩⟩
def lw_privs : List (MethodName × Nat) := lw_privs_1 ++ (lw_privs_2)
def lw_tbl : List Cond := k2_sels lw_privs ++ tables_1
theorem lw_privs_ok : ∀ q ∈ lw_privs, lw_okq q := by
  show ∀ q ∈ lw_privs_1 ++ (lw_privs_2), lw_okq q
  exact List.forall_mem_append.mpr ⟨lw_r1, lw_r2⟩
end
section
def wT : List Cond := lw_tbl.filter goodWord
theorem wT_in {w : Cond} (h : w ∈ wT) : w ∈ lw_tbl := (List.mem_filter.mp h).1
theorem gi {c0 c1 : Cond} (h : c1 ∈ wT) : GoodIn (c0 :: wT) (c1 :: wT) := fun w hw => ⟨(List.mem_cons.mp hw).elim (fun e => by rw [e]; exact List.mem_cons_of_mem _ h) (fun h => List.mem_cons_of_mem _ h), good_of_word (List.mem_filter.mp ((List.mem_cons.mp hw).elim (fun e => by rw [e]; exact h) id)).2⟩
theorem giT {c1 : Cond} (h : c1 ∈ wT) : GoodIn wT (c1 :: wT) := fun w hw => ⟨(List.mem_cons.mp hw).elim (fun e => by rw [e]; exact h) id, good_of_word (List.mem_filter.mp ((List.mem_cons.mp hw).elim (fun e => by rw [e]; exact h) id)).2⟩
theorem gw {big ws : List Cond} {w : Cond} (h : w ∈ wT) (hs : ∀ x ∈ wT, x ∈ big) (hg : GoodIn big ws) : GoodIn big (w :: ws) := fun x hx => (List.mem_cons.mp hx).elim (fun e => by rw [e]; exact ⟨hs _ h, good_of_word (List.mem_filter.mp h).2⟩) (fun h => hg x h)
theorem gv {ws : List Cond} {w : Cond} (h : w ∈ wT) (hg : GoodIn wT ws) : GoodIn wT (w :: ws) := fun x hx => (List.mem_cons.mp hx).elim (fun e => by rw [e]; exact ⟨h, good_of_word (List.mem_filter.mp h).2⟩) (fun h => hg x h)
theorem gV {own C : String} {idx : Nat} {y : MethodName} {c1 : Cond} (h1 : Cond.methodLink own idx y ∈ wT) (h2 : Cond.instanceMethod y ∈ wT) (h3 : Cond.selects C y y ∈ wT) (h4 : Cond.initialized C ∈ wT) (h5 : c1 ∈ wT) : GoodIn wT (wsV own idx C y (c1 :: wT)) := gv h1 (gv h2 (gv h3 (gv h4 (giT h5))))
theorem gS {own : String} {idx : Nat} {y : MethodName} {c1 : Cond} (h1 : Cond.methodLink own idx y ∈ wT) (h2 : Cond.static y ∈ wT) (h3 : Cond.initialized own ∈ wT) (h5 : c1 ∈ wT) : GoodIn wT (wsS own idx y (c1 :: wT)) := gv h1 (gv h2 (gv h3 (giT h5)))
theorem gS2 {own : String} {idx : Nat} {y : MethodName} {c1 : Cond} (h1 : Cond.methodLink own idx y ∈ wT) (h2 : Cond.static y ∈ wT) (h3 : Cond.initialized y.cls ∈ wT) (h5 : c1 ∈ wT) : GoodIn wT (va_wsS own idx y (c1 :: wT)) := gv h1 (gv h2 (gv h3 (giT h5)))
theorem wd0 : (Jvm.Cond.selects "java/lang/Throwable" ({ cls := "java/lang/Throwable", name := "fillInStackTrace", desc := "(I)Ljava/lang/Throwable;" } : Jvm.MethodName) ({ cls := "java/lang/Throwable", name := "fillInStackTrace", desc := "(I)Ljava/lang/Throwable;" } : Jvm.MethodName)) ∈ wT := List.mem_filter.mpr ⟨List.mem_of_getElem? (i := 0) (by decide +kernel), by decide +kernel⟩
theorem wd1 : (Jvm.Cond.selects "RuleReader$Bytes" ({ cls := "RuleReader$Bytes", name := "lengthen", desc := "(I)V" } : Jvm.MethodName) ({ cls := "RuleReader$Bytes", name := "lengthen", desc := "(I)V" } : Jvm.MethodName)) ∈ wT := List.mem_filter.mpr ⟨List.mem_of_getElem? (i := 1) (by decide +kernel), by decide +kernel⟩
theorem wd2 : (Jvm.Cond.selects "RuleReader$Bytes" ({ cls := "RuleReader$Bytes", name := "set", desc := "(II)V" } : Jvm.MethodName) ({ cls := "RuleReader$Bytes", name := "set", desc := "(II)V" } : Jvm.MethodName)) ∈ wT := List.mem_filter.mpr ⟨List.mem_of_getElem? (i := 2) (by decide +kernel), by decide +kernel⟩
theorem wd3 : (Jvm.Cond.selects "RuleReader$Bytes" ({ cls := "RuleReader$Bytes", name := "layOver", desc := "([BII)V" } : Jvm.MethodName) ({ cls := "RuleReader$Bytes", name := "layOver", desc := "([BII)V" } : Jvm.MethodName)) ∈ wT := List.mem_filter.mpr ⟨List.mem_of_getElem? (i := 3) (by decide +kernel), by decide +kernel⟩
theorem wd4 : (Jvm.Cond.selects "RuleReader$Nodes" ({ cls := "RuleReader$Nodes", name := "layOutValue", desc := "(IIII)I" } : Jvm.MethodName) ({ cls := "RuleReader$Nodes", name := "layOutValue", desc := "(IIII)I" } : Jvm.MethodName)) ∈ wT := List.mem_filter.mpr ⟨List.mem_of_getElem? (i := 4) (by decide +kernel), by decide +kernel⟩
theorem wd5 : (Jvm.Cond.selects "RuleReader$Header" ({ cls := "RuleReader$Header", name := "decodeIdentifier", desc := "(LRuleReader$Bytes;II)I" } : Jvm.MethodName) ({ cls := "RuleReader$Header", name := "decodeIdentifier", desc := "(LRuleReader$Bytes;II)I" } : Jvm.MethodName)) ∈ wT := List.mem_filter.mpr ⟨List.mem_of_getElem? (i := 5) (by decide +kernel), by decide +kernel⟩
theorem wd6 : (Jvm.Cond.selects "RuleReader$Header" ({ cls := "RuleReader$Header", name := "decodeLongNumber", desc := "(LRuleReader$Bytes;II)I" } : Jvm.MethodName) ({ cls := "RuleReader$Header", name := "decodeLongNumber", desc := "(LRuleReader$Bytes;II)I" } : Jvm.MethodName)) ∈ wT := List.mem_filter.mpr ⟨List.mem_of_getElem? (i := 6) (by decide +kernel), by decide +kernel⟩
theorem wd7 : (Jvm.Cond.selects "RuleReader$Header" ({ cls := "RuleReader$Header", name := "decodeLongLength", desc := "(LRuleReader$Bytes;IIZ)Z" } : Jvm.MethodName) ({ cls := "RuleReader$Header", name := "decodeLongLength", desc := "(LRuleReader$Bytes;IIZ)Z" } : Jvm.MethodName)) ∈ wT := List.mem_filter.mpr ⟨List.mem_of_getElem? (i := 7) (by decide +kernel), by decide +kernel⟩
theorem wd8 : (Jvm.Cond.selects "RuleReader$Nodes" ({ cls := "RuleReader$Nodes", name := "enter", desc := "(II)I" } : Jvm.MethodName) ({ cls := "RuleReader$Nodes", name := "enter", desc := "(II)I" } : Jvm.MethodName)) ∈ wT := List.mem_filter.mpr ⟨List.mem_of_getElem? (i := 8) (by decide +kernel), by decide +kernel⟩
theorem wd9 : (Jvm.Cond.selects "RuleReader$Nodes" ({ cls := "RuleReader$Nodes", name := "put", desc := "(III)V" } : Jvm.MethodName) ({ cls := "RuleReader$Nodes", name := "put", desc := "(III)V" } : Jvm.MethodName)) ∈ wT := List.mem_filter.mpr ⟨List.mem_of_getElem? (i := 9) (by decide +kernel), by decide +kernel⟩
theorem wd10 : (Jvm.Cond.selects "RuleReader$Nodes" ({ cls := "RuleReader$Nodes", name := "indexOf", desc := "(II)I" } : Jvm.MethodName) ({ cls := "RuleReader$Nodes", name := "indexOf", desc := "(II)I" } : Jvm.MethodName)) ∈ wT := List.mem_filter.mpr ⟨List.mem_of_getElem? (i := 10) (by decide +kernel), by decide +kernel⟩
theorem wd11 : (Jvm.Cond.selects "RuleReader$Nodes" ({ cls := "RuleReader$Nodes", name := "layOutUpToZeros", desc := "(IIII)I" } : Jvm.MethodName) ({ cls := "RuleReader$Nodes", name := "layOutUpToZeros", desc := "(IIII)I" } : Jvm.MethodName)) ∈ wT := List.mem_filter.mpr ⟨List.mem_of_getElem? (i := 11) (by decide +kernel), by decide +kernel⟩
theorem wd12 : (Jvm.Cond.selects "RuleReader$Nodes" ({ cls := "RuleReader$Nodes", name := "layOutUpTo", desc := "(IIII)Z" } : Jvm.MethodName) ({ cls := "RuleReader$Nodes", name := "layOutUpTo", desc := "(IIII)Z" } : Jvm.MethodName)) ∈ wT := List.mem_filter.mpr ⟨List.mem_of_getElem? (i := 12) (by decide +kernel), by decide +kernel⟩
theorem wd13 : (Jvm.Cond.selects "RuleReader$Nodes" ({ cls := "RuleReader$Nodes", name := "contentsAt", desc := "(II)I" } : Jvm.MethodName) ({ cls := "RuleReader$Nodes", name := "contentsAt", desc := "(II)I" } : Jvm.MethodName)) ∈ wT := List.mem_filter.mpr ⟨List.mem_of_getElem? (i := 13) (by decide +kernel), by decide +kernel⟩
theorem wd14 : (Jvm.Cond.selects "RuleReader" ({ cls := "RuleReader", name := "writeIdentifier", desc := "(IIZ)V" } : Jvm.MethodName) ({ cls := "RuleReader", name := "writeIdentifier", desc := "(IIZ)V" } : Jvm.MethodName)) ∈ wT := List.mem_filter.mpr ⟨List.mem_of_getElem? (i := 14) (by decide +kernel), by decide +kernel⟩
theorem wd15 : (Jvm.Cond.selects "RuleReader" ({ cls := "RuleReader", name := "writeLength", desc := "(I)V" } : Jvm.MethodName) ({ cls := "RuleReader", name := "writeLength", desc := "(I)V" } : Jvm.MethodName)) ∈ wT := List.mem_filter.mpr ⟨List.mem_of_getElem? (i := 15) (by decide +kernel), by decide +kernel⟩
theorem wd16 : (Jvm.Cond.selects "RuleReaderModel" ({ cls := "RuleReaderModel", name := "fail", desc := "(I)I" } : Jvm.MethodName) ({ cls := "RuleReaderModel", name := "fail", desc := "(I)I" } : Jvm.MethodName)) ∈ wT := List.mem_filter.mpr ⟨List.mem_of_getElem? (i := 16) (by decide +kernel), by decide +kernel⟩
theorem wd17 : (Jvm.Cond.selects "RuleReaderModel" ({ cls := "RuleReaderModel", name := "value", desc := "(III)Z" } : Jvm.MethodName) ({ cls := "RuleReaderModel", name := "value", desc := "(III)Z" } : Jvm.MethodName)) ∈ wT := List.mem_filter.mpr ⟨List.mem_of_getElem? (i := 17) (by decide +kernel), by decide +kernel⟩
theorem wd18 : (Jvm.Cond.selects "RuleReaderModel" ({ cls := "RuleReaderModel", name := "next", desc := "()I" } : Jvm.MethodName) ({ cls := "RuleReaderModel", name := "next", desc := "()I" } : Jvm.MethodName)) ∈ wT := List.mem_filter.mpr ⟨List.mem_of_getElem? (i := 18) (by decide +kernel), by decide +kernel⟩
theorem wd19 : (Jvm.Cond.selects "RuleReaderModel" ({ cls := "RuleReaderModel", name := "length", desc := "()J" } : Jvm.MethodName) ({ cls := "RuleReaderModel", name := "length", desc := "()J" } : Jvm.MethodName)) ∈ wT := List.mem_filter.mpr ⟨List.mem_of_getElem? (i := 19) (by decide +kernel), by decide +kernel⟩
theorem wd20 : (Jvm.Cond.selects "RuleReaderModel" ({ cls := "RuleReaderModel", name := "open", desc := "(III)Z" } : Jvm.MethodName) ({ cls := "RuleReaderModel", name := "open", desc := "(III)Z" } : Jvm.MethodName)) ∈ wT := List.mem_filter.mpr ⟨List.mem_of_getElem? (i := 20) (by decide +kernel), by decide +kernel⟩
theorem wd21 : (Jvm.Cond.selects "RuleReaderModel" ({ cls := "RuleReaderModel", name := "out", desc := "(I)Z" } : Jvm.MethodName) ({ cls := "RuleReaderModel", name := "out", desc := "(I)Z" } : Jvm.MethodName)) ∈ wT := List.mem_filter.mpr ⟨List.mem_of_getElem? (i := 21) (by decide +kernel), by decide +kernel⟩
theorem wd22 : (Jvm.Cond.selects "RuleReaderModel" ({ cls := "RuleReaderModel", name := "headSize", desc := "(II)I" } : Jvm.MethodName) ({ cls := "RuleReaderModel", name := "headSize", desc := "(II)I" } : Jvm.MethodName)) ∈ wT := List.mem_filter.mpr ⟨List.mem_of_getElem? (i := 22) (by decide +kernel), by decide +kernel⟩
theorem wd23 : (Jvm.Cond.selects "RuleReaderModel" ({ cls := "RuleReaderModel", name := "head", desc := "(IIIZI)I" } : Jvm.MethodName) ({ cls := "RuleReaderModel", name := "head", desc := "(IIIZI)I" } : Jvm.MethodName)) ∈ wT := List.mem_filter.mpr ⟨List.mem_of_getElem? (i := 23) (by decide +kernel), by decide +kernel⟩
theorem wd24 : (Jvm.Cond.selects "RuleReaderModel" ({ cls := "RuleReaderModel", name := "bytesOf", desc := "(J)I" } : Jvm.MethodName) ({ cls := "RuleReaderModel", name := "bytesOf", desc := "(J)I" } : Jvm.MethodName)) ∈ wT := List.mem_filter.mpr ⟨List.mem_of_getElem? (i := 24) (by decide +kernel), by decide +kernel⟩
theorem wd25 : (Jvm.Cond.initialized "RuleReaderLaw") ∈ wT := List.mem_filter.mpr ⟨List.mem_of_getElem? (i := 25) (by decide +kernel), by decide +kernel⟩
theorem wd26 : (Jvm.Cond.initialized "RuleReader") ∈ wT := List.mem_filter.mpr ⟨List.mem_of_getElem? (i := 26) (by decide +kernel), by decide +kernel⟩
theorem wd27 : (Jvm.Cond.initialized "RuleReader$Bytes") ∈ wT := List.mem_filter.mpr ⟨List.mem_of_getElem? (i := 27) (by decide +kernel), by decide +kernel⟩
theorem wd28 : (Jvm.Cond.initialized "RuleReader$Nodes") ∈ wT := List.mem_filter.mpr ⟨List.mem_of_getElem? (i := 28) (by decide +kernel), by decide +kernel⟩
theorem wd29 : (Jvm.Cond.initialized "RuleReader$Header") ∈ wT := List.mem_filter.mpr ⟨List.mem_of_getElem? (i := 29) (by decide +kernel), by decide +kernel⟩
theorem wd30 : (Jvm.Cond.initialized "RuleReaderModel") ∈ wT := List.mem_filter.mpr ⟨List.mem_of_getElem? (i := 30) (by decide +kernel), by decide +kernel⟩
theorem wd31 : (Jvm.Cond.initialized "java/lang/Throwable") ∈ wT := List.mem_filter.mpr ⟨List.mem_of_getElem? (i := 31) (by decide +kernel), by decide +kernel⟩
theorem wd32 : (Jvm.Cond.initialized "java/lang/Exception") ∈ wT := List.mem_filter.mpr ⟨List.mem_of_getElem? (i := 32) (by decide +kernel), by decide +kernel⟩
theorem wd33 : (Jvm.Cond.initialized "java/lang/RuntimeException") ∈ wT := List.mem_filter.mpr ⟨List.mem_of_getElem? (i := 33) (by decide +kernel), by decide +kernel⟩
theorem wd34 : (Jvm.Cond.initialized "java/lang/IndexOutOfBoundsException") ∈ wT := List.mem_filter.mpr ⟨List.mem_of_getElem? (i := 34) (by decide +kernel), by decide +kernel⟩
theorem wd35 : (Jvm.Cond.initialized "java/lang/Math") ∈ wT := List.mem_filter.mpr ⟨List.mem_of_getElem? (i := 35) (by decide +kernel), by decide +kernel⟩
theorem wd36 : (Jvm.Cond.initialized "java/util/Arrays") ∈ wT := List.mem_filter.mpr ⟨List.mem_of_getElem? (i := 36) (by decide +kernel), by decide +kernel⟩
theorem wd37 : (Jvm.Cond.initialized "java/lang/System") ∈ wT := List.mem_filter.mpr ⟨List.mem_of_getElem? (i := 37) (by decide +kernel), by decide +kernel⟩
theorem wd38 : (Jvm.Cond.initialized "java/lang/IllegalArgumentException") ∈ wT := List.mem_filter.mpr ⟨List.mem_of_getElem? (i := 38) (by decide +kernel), by decide +kernel⟩
theorem wd39 : (Jvm.Cond.initialized "java/lang/UnsupportedOperationException") ∈ wT := List.mem_filter.mpr ⟨List.mem_of_getElem? (i := 39) (by decide +kernel), by decide +kernel⟩
theorem wd40 : (Jvm.Cond.initialized "java/lang/ArithmeticException") ∈ wT := List.mem_filter.mpr ⟨List.mem_of_getElem? (i := 40) (by decide +kernel), by decide +kernel⟩
theorem wd41 : (Jvm.Cond.initialized "java/lang/Integer") ∈ wT := List.mem_filter.mpr ⟨List.mem_of_getElem? (i := 41) (by decide +kernel), by decide +kernel⟩
theorem wd42 : (Jvm.Cond.classLink "RuleReaderLaw" (8 : Nat) "RuleReader") ∈ wT := List.mem_filter.mpr ⟨List.mem_of_getElem? (i := 42) (by decide +kernel), by decide +kernel⟩
theorem wd43 : (Jvm.Cond.instantiable "RuleReader" (4 : Nat)) ∈ wT := List.mem_filter.mpr ⟨List.mem_of_getElem? (i := 43) (by decide +kernel), by decide +kernel⟩
theorem wd44 : (Jvm.Cond.methodLink "RuleReaderLaw" (54 : Nat) ({ cls := "RuleReader", name := "<init>", desc := "()V" } : Jvm.MethodName)) ∈ wT := List.mem_filter.mpr ⟨List.mem_of_getElem? (i := 44) (by decide +kernel), by decide +kernel⟩
theorem wd45 : (Jvm.Cond.instanceMethod ({ cls := "RuleReader", name := "<init>", desc := "()V" } : Jvm.MethodName)) ∈ wT := List.mem_filter.mpr ⟨List.mem_of_getElem? (i := 45) (by decide +kernel), by decide +kernel⟩
theorem wd46 : (Jvm.Cond.code ({ cls := "RuleReader", name := "<init>", desc := "()V" } : Jvm.MethodName) prog_1_method_1_code (1 : Nat) (Option.none : Option Jvm.ClassFile.FieldType)) ∈ wT := List.mem_filter.mpr ⟨List.mem_of_getElem? (i := 46) (by decide +kernel), by decide +kernel⟩
theorem wd47 : (Jvm.Cond.methodLink "RuleReader" (3 : Nat) ({ cls := "java/lang/Object", name := "<init>", desc := "()V" } : Jvm.MethodName)) ∈ wT := List.mem_filter.mpr ⟨List.mem_of_getElem? (i := 47) (by decide +kernel), by decide +kernel⟩
theorem wd48 : (Jvm.Cond.instanceMethod ({ cls := "java/lang/Object", name := "<init>", desc := "()V" } : Jvm.MethodName)) ∈ wT := List.mem_filter.mpr ⟨List.mem_of_getElem? (i := 48) (by decide +kernel), by decide +kernel⟩
theorem wd49 : (Jvm.Cond.code ({ cls := "java/lang/Object", name := "<init>", desc := "()V" } : Jvm.MethodName) object_method_1_code (1 : Nat) (Option.none : Option Jvm.ClassFile.FieldType)) ∈ wT := List.mem_filter.mpr ⟨List.mem_of_getElem? (i := 49) (by decide +kernel), by decide +kernel⟩
theorem wd50 : (Jvm.Cond.classLink "RuleReader" (9 : Nat) "RuleReader$Bytes") ∈ wT := List.mem_filter.mpr ⟨List.mem_of_getElem? (i := 50) (by decide +kernel), by decide +kernel⟩
theorem wd51 : (Jvm.Cond.instantiable "RuleReader$Bytes" (2 : Nat)) ∈ wT := List.mem_filter.mpr ⟨List.mem_of_getElem? (i := 51) (by decide +kernel), by decide +kernel⟩
theorem wd52 : (Jvm.Cond.methodLink "RuleReader" (11 : Nat) ({ cls := "RuleReader$Bytes", name := "<init>", desc := "()V" } : Jvm.MethodName)) ∈ wT := List.mem_filter.mpr ⟨List.mem_of_getElem? (i := 52) (by decide +kernel), by decide +kernel⟩
theorem wd53 : (Jvm.Cond.instanceMethod ({ cls := "RuleReader$Bytes", name := "<init>", desc := "()V" } : Jvm.MethodName)) ∈ wT := List.mem_filter.mpr ⟨List.mem_of_getElem? (i := 53) (by decide +kernel), by decide +kernel⟩
theorem wd54 : (Jvm.Cond.code ({ cls := "RuleReader$Bytes", name := "<init>", desc := "()V" } : Jvm.MethodName) prog_2_method_1_code (1 : Nat) (Option.none : Option Jvm.ClassFile.FieldType)) ∈ wT := List.mem_filter.mpr ⟨List.mem_of_getElem? (i := 54) (by decide +kernel), by decide +kernel⟩
theorem wd55 : (Jvm.Cond.methodLink "RuleReader$Bytes" (3 : Nat) ({ cls := "java/lang/Object", name := "<init>", desc := "()V" } : Jvm.MethodName)) ∈ wT := List.mem_filter.mpr ⟨List.mem_of_getElem? (i := 55) (by decide +kernel), by decide +kernel⟩
theorem wd56 : (Jvm.Cond.fieldLink "RuleReader$Bytes" (9 : Nat) "RuleReader$Bytes" "row" "[B") ∈ wT := List.mem_filter.mpr ⟨List.mem_of_getElem? (i := 56) (by decide +kernel), by decide +kernel⟩
theorem wd57 : (Jvm.Cond.fieldLink "RuleReader$Bytes" (15 : Nat) "RuleReader$Bytes" "length" "I") ∈ wT := List.mem_filter.mpr ⟨List.mem_of_getElem? (i := 57) (by decide +kernel), by decide +kernel⟩
theorem wd58 : (Jvm.Cond.lays "RuleReader$Bytes" "RuleReader$Bytes" "row" "[B") ∈ wT := List.mem_filter.mpr ⟨List.mem_of_getElem? (i := 58) (by decide +kernel), by decide +kernel⟩
theorem wd59 : (Jvm.Cond.soleField "RuleReader$Bytes" "row") ∈ wT := List.mem_filter.mpr ⟨List.mem_of_getElem? (i := 59) (by decide +kernel), by decide +kernel⟩
theorem wd60 : (Jvm.Cond.lays "RuleReader$Bytes" "RuleReader$Bytes" "length" "I") ∈ wT := List.mem_filter.mpr ⟨List.mem_of_getElem? (i := 60) (by decide +kernel), by decide +kernel⟩
theorem wd61 : (Jvm.Cond.soleField "RuleReader$Bytes" "length") ∈ wT := List.mem_filter.mpr ⟨List.mem_of_getElem? (i := 61) (by decide +kernel), by decide +kernel⟩
theorem wd62 : (Jvm.Cond.superclass "RuleReader$Bytes" "java/lang/Object") ∈ wT := List.mem_filter.mpr ⟨List.mem_of_getElem? (i := 62) (by decide +kernel), by decide +kernel⟩
theorem wd63 : (Jvm.Cond.arrayClass Jvm.ClassFile.FieldType.byte) ∈ wT := List.mem_filter.mpr ⟨List.mem_of_getElem? (i := 63) (by decide +kernel), by decide +kernel⟩
theorem wd64 : (Jvm.Cond.classLink "RuleReader" (19 : Nat) "RuleReader$Nodes") ∈ wT := List.mem_filter.mpr ⟨List.mem_of_getElem? (i := 64) (by decide +kernel), by decide +kernel⟩
theorem wd65 : (Jvm.Cond.instantiable "RuleReader$Nodes" (5 : Nat)) ∈ wT := List.mem_filter.mpr ⟨List.mem_of_getElem? (i := 65) (by decide +kernel), by decide +kernel⟩
theorem wd66 : (Jvm.Cond.methodLink "RuleReader" (21 : Nat) ({ cls := "RuleReader$Nodes", name := "<init>", desc := "()V" } : Jvm.MethodName)) ∈ wT := List.mem_filter.mpr ⟨List.mem_of_getElem? (i := 66) (by decide +kernel), by decide +kernel⟩
theorem wd67 : (Jvm.Cond.instanceMethod ({ cls := "RuleReader$Nodes", name := "<init>", desc := "()V" } : Jvm.MethodName)) ∈ wT := List.mem_filter.mpr ⟨List.mem_of_getElem? (i := 67) (by decide +kernel), by decide +kernel⟩
theorem wd68 : (Jvm.Cond.code ({ cls := "RuleReader$Nodes", name := "<init>", desc := "()V" } : Jvm.MethodName) prog_4_method_1_code (1 : Nat) (Option.none : Option Jvm.ClassFile.FieldType)) ∈ wT := List.mem_filter.mpr ⟨List.mem_of_getElem? (i := 68) (by decide +kernel), by decide +kernel⟩
theorem wd69 : (Jvm.Cond.methodLink "RuleReader$Nodes" (3 : Nat) ({ cls := "java/lang/Object", name := "<init>", desc := "()V" } : Jvm.MethodName)) ∈ wT := List.mem_filter.mpr ⟨List.mem_of_getElem? (i := 69) (by decide +kernel), by decide +kernel⟩
theorem wd70 : (Jvm.Cond.classLink "RuleReader$Nodes" (9 : Nat) "RuleReader$Bytes") ∈ wT := List.mem_filter.mpr ⟨List.mem_of_getElem? (i := 70) (by decide +kernel), by decide +kernel⟩
theorem wd71 : (Jvm.Cond.methodLink "RuleReader$Nodes" (11 : Nat) ({ cls := "RuleReader$Bytes", name := "<init>", desc := "()V" } : Jvm.MethodName)) ∈ wT := List.mem_filter.mpr ⟨List.mem_of_getElem? (i := 71) (by decide +kernel), by decide +kernel⟩
theorem wd72 : (Jvm.Cond.classLink "RuleReader$Nodes" (18 : Nat) "RuleReader$Header") ∈ wT := List.mem_filter.mpr ⟨List.mem_of_getElem? (i := 72) (by decide +kernel), by decide +kernel⟩
theorem wd73 : (Jvm.Cond.instantiable "RuleReader$Header" (6 : Nat)) ∈ wT := List.mem_filter.mpr ⟨List.mem_of_getElem? (i := 73) (by decide +kernel), by decide +kernel⟩
theorem wd74 : (Jvm.Cond.methodLink "RuleReader$Nodes" (20 : Nat) ({ cls := "RuleReader$Header", name := "<init>", desc := "()V" } : Jvm.MethodName)) ∈ wT := List.mem_filter.mpr ⟨List.mem_of_getElem? (i := 74) (by decide +kernel), by decide +kernel⟩
theorem wd75 : (Jvm.Cond.instanceMethod ({ cls := "RuleReader$Header", name := "<init>", desc := "()V" } : Jvm.MethodName)) ∈ wT := List.mem_filter.mpr ⟨List.mem_of_getElem? (i := 75) (by decide +kernel), by decide +kernel⟩
theorem wd76 : (Jvm.Cond.code ({ cls := "RuleReader$Header", name := "<init>", desc := "()V" } : Jvm.MethodName) prog_3_method_1_code (1 : Nat) (Option.none : Option Jvm.ClassFile.FieldType)) ∈ wT := List.mem_filter.mpr ⟨List.mem_of_getElem? (i := 76) (by decide +kernel), by decide +kernel⟩
theorem wd77 : (Jvm.Cond.methodLink "RuleReader$Header" (3 : Nat) ({ cls := "java/lang/Object", name := "<init>", desc := "()V" } : Jvm.MethodName)) ∈ wT := List.mem_filter.mpr ⟨List.mem_of_getElem? (i := 77) (by decide +kernel), by decide +kernel⟩
theorem wd78 : (Jvm.Cond.fieldLink "RuleReader$Header" (9 : Nat) "RuleReader$Header" "kind" "I") ∈ wT := List.mem_filter.mpr ⟨List.mem_of_getElem? (i := 78) (by decide +kernel), by decide +kernel⟩
theorem wl79 : (Jvm.Cond.fieldLinkNest "RuleReader$Nodes" (117 : Nat) "RuleReader$Header" "kind" "I" "RuleReader") ∈ lw_tbl := List.mem_of_getElem? (i := 79) (by decide +kernel)
theorem wd80 : (Jvm.Cond.fieldLink "RuleReader$Header" (15 : Nat) "RuleReader$Header" "constructed" "Z") ∈ wT := List.mem_filter.mpr ⟨List.mem_of_getElem? (i := 80) (by decide +kernel), by decide +kernel⟩
theorem wl81 : (Jvm.Cond.fieldLinkNest "RuleReader$Nodes" (104 : Nat) "RuleReader$Header" "constructed" "Z" "RuleReader") ∈ lw_tbl := List.mem_of_getElem? (i := 81) (by decide +kernel)
theorem wd82 : (Jvm.Cond.fieldLink "RuleReader$Header" (19 : Nat) "RuleReader$Header" "tag" "I") ∈ wT := List.mem_filter.mpr ⟨List.mem_of_getElem? (i := 82) (by decide +kernel), by decide +kernel⟩
theorem wl83 : (Jvm.Cond.fieldLinkNest "RuleReader$Nodes" (120 : Nat) "RuleReader$Header" "tag" "I" "RuleReader") ∈ lw_tbl := List.mem_of_getElem? (i := 83) (by decide +kernel)
theorem wd84 : (Jvm.Cond.fieldLink "RuleReader$Header" (22 : Nat) "RuleReader$Header" "open" "Z") ∈ wT := List.mem_filter.mpr ⟨List.mem_of_getElem? (i := 84) (by decide +kernel), by decide +kernel⟩
theorem wl85 : (Jvm.Cond.fieldLinkNest "RuleReader$Nodes" (92 : Nat) "RuleReader$Header" "open" "Z" "RuleReader") ∈ lw_tbl := List.mem_of_getElem? (i := 85) (by decide +kernel)
theorem wd86 : (Jvm.Cond.fieldLink "RuleReader$Header" (25 : Nat) "RuleReader$Header" "size" "I") ∈ wT := List.mem_filter.mpr ⟨List.mem_of_getElem? (i := 86) (by decide +kernel), by decide +kernel⟩
theorem wl87 : (Jvm.Cond.fieldLinkNest "RuleReader$Nodes" (102 : Nat) "RuleReader$Header" "size" "I" "RuleReader") ∈ lw_tbl := List.mem_of_getElem? (i := 87) (by decide +kernel)
theorem wd88 : (Jvm.Cond.fieldLink "RuleReader$Header" (28 : Nat) "RuleReader$Header" "contents" "I") ∈ wT := List.mem_filter.mpr ⟨List.mem_of_getElem? (i := 88) (by decide +kernel), by decide +kernel⟩
theorem wl89 : (Jvm.Cond.fieldLinkNest "RuleReader$Nodes" (89 : Nat) "RuleReader$Header" "contents" "I" "RuleReader") ∈ lw_tbl := List.mem_of_getElem? (i := 89) (by decide +kernel)
theorem wd90 : (Jvm.Cond.lays "RuleReader$Header" "RuleReader$Header" "kind" "I") ∈ wT := List.mem_filter.mpr ⟨List.mem_of_getElem? (i := 90) (by decide +kernel), by decide +kernel⟩
theorem wd91 : (Jvm.Cond.soleField "RuleReader$Header" "kind") ∈ wT := List.mem_filter.mpr ⟨List.mem_of_getElem? (i := 91) (by decide +kernel), by decide +kernel⟩
theorem wd92 : (Jvm.Cond.lays "RuleReader$Header" "RuleReader$Header" "constructed" "Z") ∈ wT := List.mem_filter.mpr ⟨List.mem_of_getElem? (i := 92) (by decide +kernel), by decide +kernel⟩
theorem wd93 : (Jvm.Cond.soleField "RuleReader$Header" "constructed") ∈ wT := List.mem_filter.mpr ⟨List.mem_of_getElem? (i := 93) (by decide +kernel), by decide +kernel⟩
theorem wd94 : (Jvm.Cond.lays "RuleReader$Header" "RuleReader$Header" "tag" "I") ∈ wT := List.mem_filter.mpr ⟨List.mem_of_getElem? (i := 94) (by decide +kernel), by decide +kernel⟩
theorem wd95 : (Jvm.Cond.soleField "RuleReader$Header" "tag") ∈ wT := List.mem_filter.mpr ⟨List.mem_of_getElem? (i := 95) (by decide +kernel), by decide +kernel⟩
theorem wd96 : (Jvm.Cond.lays "RuleReader$Header" "RuleReader$Header" "open" "Z") ∈ wT := List.mem_filter.mpr ⟨List.mem_of_getElem? (i := 96) (by decide +kernel), by decide +kernel⟩
theorem wd97 : (Jvm.Cond.soleField "RuleReader$Header" "open") ∈ wT := List.mem_filter.mpr ⟨List.mem_of_getElem? (i := 97) (by decide +kernel), by decide +kernel⟩
theorem wd98 : (Jvm.Cond.lays "RuleReader$Header" "RuleReader$Header" "size" "I") ∈ wT := List.mem_filter.mpr ⟨List.mem_of_getElem? (i := 98) (by decide +kernel), by decide +kernel⟩
theorem wd99 : (Jvm.Cond.soleField "RuleReader$Header" "size") ∈ wT := List.mem_filter.mpr ⟨List.mem_of_getElem? (i := 99) (by decide +kernel), by decide +kernel⟩
theorem wd100 : (Jvm.Cond.lays "RuleReader$Header" "RuleReader$Header" "contents" "I") ∈ wT := List.mem_filter.mpr ⟨List.mem_of_getElem? (i := 100) (by decide +kernel), by decide +kernel⟩
theorem wd101 : (Jvm.Cond.soleField "RuleReader$Header" "contents") ∈ wT := List.mem_filter.mpr ⟨List.mem_of_getElem? (i := 101) (by decide +kernel), by decide +kernel⟩
theorem wd102 : (Jvm.Cond.superclass "RuleReader$Header" "java/lang/Object") ∈ wT := List.mem_filter.mpr ⟨List.mem_of_getElem? (i := 102) (by decide +kernel), by decide +kernel⟩
theorem wd103 : (Jvm.Cond.fieldLink "RuleReader$Nodes" (12 : Nat) "RuleReader$Nodes" "bytes" "LRuleReader$Bytes;") ∈ wT := List.mem_filter.mpr ⟨List.mem_of_getElem? (i := 103) (by decide +kernel), by decide +kernel⟩
theorem wd104 : (Jvm.Cond.fieldLink "RuleReader$Nodes" (21 : Nat) "RuleReader$Nodes" "header" "LRuleReader$Header;") ∈ wT := List.mem_filter.mpr ⟨List.mem_of_getElem? (i := 104) (by decide +kernel), by decide +kernel⟩
theorem wd105 : (Jvm.Cond.fieldLink "RuleReader$Nodes" (25 : Nat) "RuleReader$Nodes" "rows" "[I") ∈ wT := List.mem_filter.mpr ⟨List.mem_of_getElem? (i := 105) (by decide +kernel), by decide +kernel⟩
theorem wd106 : (Jvm.Cond.fieldLink "RuleReader$Nodes" (29 : Nat) "RuleReader$Nodes" "many" "I") ∈ wT := List.mem_filter.mpr ⟨List.mem_of_getElem? (i := 106) (by decide +kernel), by decide +kernel⟩
theorem wd107 : (Jvm.Cond.fieldLink "RuleReader$Nodes" (33 : Nat) "RuleReader$Nodes" "strict" "Z") ∈ wT := List.mem_filter.mpr ⟨List.mem_of_getElem? (i := 107) (by decide +kernel), by decide +kernel⟩
theorem wd108 : (Jvm.Cond.laysFinal "RuleReader$Nodes" "RuleReader$Nodes" "bytes" "LRuleReader$Bytes;") ∈ wT := List.mem_filter.mpr ⟨List.mem_of_getElem? (i := 108) (by decide +kernel), by decide +kernel⟩
theorem wd109 : (Jvm.Cond.soleField "RuleReader$Nodes" "bytes") ∈ wT := List.mem_filter.mpr ⟨List.mem_of_getElem? (i := 109) (by decide +kernel), by decide +kernel⟩
theorem wd110 : (Jvm.Cond.laysFinal "RuleReader$Nodes" "RuleReader$Nodes" "header" "LRuleReader$Header;") ∈ wT := List.mem_filter.mpr ⟨List.mem_of_getElem? (i := 110) (by decide +kernel), by decide +kernel⟩
theorem wd111 : (Jvm.Cond.soleField "RuleReader$Nodes" "header") ∈ wT := List.mem_filter.mpr ⟨List.mem_of_getElem? (i := 111) (by decide +kernel), by decide +kernel⟩
theorem wd112 : (Jvm.Cond.lays "RuleReader$Nodes" "RuleReader$Nodes" "rows" "[I") ∈ wT := List.mem_filter.mpr ⟨List.mem_of_getElem? (i := 112) (by decide +kernel), by decide +kernel⟩
theorem wd113 : (Jvm.Cond.soleField "RuleReader$Nodes" "rows") ∈ wT := List.mem_filter.mpr ⟨List.mem_of_getElem? (i := 113) (by decide +kernel), by decide +kernel⟩
theorem wd114 : (Jvm.Cond.lays "RuleReader$Nodes" "RuleReader$Nodes" "many" "I") ∈ wT := List.mem_filter.mpr ⟨List.mem_of_getElem? (i := 114) (by decide +kernel), by decide +kernel⟩
theorem wd115 : (Jvm.Cond.soleField "RuleReader$Nodes" "many") ∈ wT := List.mem_filter.mpr ⟨List.mem_of_getElem? (i := 115) (by decide +kernel), by decide +kernel⟩
theorem wd116 : (Jvm.Cond.lays "RuleReader$Nodes" "RuleReader$Nodes" "strict" "Z") ∈ wT := List.mem_filter.mpr ⟨List.mem_of_getElem? (i := 116) (by decide +kernel), by decide +kernel⟩
theorem wd117 : (Jvm.Cond.soleField "RuleReader$Nodes" "strict") ∈ wT := List.mem_filter.mpr ⟨List.mem_of_getElem? (i := 117) (by decide +kernel), by decide +kernel⟩
theorem wd118 : (Jvm.Cond.superclass "RuleReader$Nodes" "java/lang/Object") ∈ wT := List.mem_filter.mpr ⟨List.mem_of_getElem? (i := 118) (by decide +kernel), by decide +kernel⟩
theorem wd119 : (Jvm.Cond.arrayClass Jvm.ClassFile.FieldType.int) ∈ wT := List.mem_filter.mpr ⟨List.mem_of_getElem? (i := 119) (by decide +kernel), by decide +kernel⟩
theorem wd120 : (Jvm.Cond.fieldLink "RuleReader" (12 : Nat) "RuleReader" "tape" "LRuleReader$Bytes;") ∈ wT := List.mem_filter.mpr ⟨List.mem_of_getElem? (i := 120) (by decide +kernel), by decide +kernel⟩
theorem wd121 : (Jvm.Cond.fieldLink "RuleReader" (16 : Nat) "RuleReader" "piece" "LRuleReader$Bytes;") ∈ wT := List.mem_filter.mpr ⟨List.mem_of_getElem? (i := 121) (by decide +kernel), by decide +kernel⟩
theorem wd122 : (Jvm.Cond.fieldLink "RuleReader" (22 : Nat) "RuleReader" "nodes" "LRuleReader$Nodes;") ∈ wT := List.mem_filter.mpr ⟨List.mem_of_getElem? (i := 122) (by decide +kernel), by decide +kernel⟩
theorem wd123 : (Jvm.Cond.fieldLink "RuleReader" (26 : Nat) "RuleReader" "spare" "LRuleReader$Nodes;") ∈ wT := List.mem_filter.mpr ⟨List.mem_of_getElem? (i := 123) (by decide +kernel), by decide +kernel⟩
theorem wd124 : (Jvm.Cond.laysFinal "RuleReader" "RuleReader" "tape" "LRuleReader$Bytes;") ∈ wT := List.mem_filter.mpr ⟨List.mem_of_getElem? (i := 124) (by decide +kernel), by decide +kernel⟩
theorem wd125 : (Jvm.Cond.soleField "RuleReader" "tape") ∈ wT := List.mem_filter.mpr ⟨List.mem_of_getElem? (i := 125) (by decide +kernel), by decide +kernel⟩
theorem wd126 : (Jvm.Cond.laysFinal "RuleReader" "RuleReader" "piece" "LRuleReader$Bytes;") ∈ wT := List.mem_filter.mpr ⟨List.mem_of_getElem? (i := 126) (by decide +kernel), by decide +kernel⟩
theorem wd127 : (Jvm.Cond.soleField "RuleReader" "piece") ∈ wT := List.mem_filter.mpr ⟨List.mem_of_getElem? (i := 127) (by decide +kernel), by decide +kernel⟩
theorem wd128 : (Jvm.Cond.lays "RuleReader" "RuleReader" "nodes" "LRuleReader$Nodes;") ∈ wT := List.mem_filter.mpr ⟨List.mem_of_getElem? (i := 128) (by decide +kernel), by decide +kernel⟩
theorem wd129 : (Jvm.Cond.soleField "RuleReader" "nodes") ∈ wT := List.mem_filter.mpr ⟨List.mem_of_getElem? (i := 129) (by decide +kernel), by decide +kernel⟩
theorem wd130 : (Jvm.Cond.lays "RuleReader" "RuleReader" "spare" "LRuleReader$Nodes;") ∈ wT := List.mem_filter.mpr ⟨List.mem_of_getElem? (i := 130) (by decide +kernel), by decide +kernel⟩
theorem wd131 : (Jvm.Cond.soleField "RuleReader" "spare") ∈ wT := List.mem_filter.mpr ⟨List.mem_of_getElem? (i := 131) (by decide +kernel), by decide +kernel⟩
theorem wd132 : (Jvm.Cond.superclass "RuleReader" "java/lang/Object") ∈ wT := List.mem_filter.mpr ⟨List.mem_of_getElem? (i := 132) (by decide +kernel), by decide +kernel⟩
theorem wd133 : (Jvm.Cond.methodLink "RuleReaderLaw" (58 : Nat) ({ cls := "RuleReaderLaw", name := "feed", desc := "(LRuleReader;IIIII[J)I" } : Jvm.MethodName)) ∈ wT := List.mem_filter.mpr ⟨List.mem_of_getElem? (i := 133) (by decide +kernel), by decide +kernel⟩
theorem wd134 : (Jvm.Cond.static ({ cls := "RuleReaderLaw", name := "feed", desc := "(LRuleReader;IIIII[J)I" } : Jvm.MethodName)) ∈ wT := List.mem_filter.mpr ⟨List.mem_of_getElem? (i := 134) (by decide +kernel), by decide +kernel⟩
theorem wd135 : (Jvm.Cond.codeWith ({ cls := "RuleReaderLaw", name := "feed", desc := "(LRuleReader;IIIII[J)I" } : Jvm.MethodName) method_3_code (8 : Nat) (Option.some Jvm.ClassFile.FieldType.int) [((0 : Nat), (16 : Nat), (19 : Nat), (13 : Nat))]) ∈ wT := List.mem_filter.mpr ⟨List.mem_of_getElem? (i := 135) (by decide +kernel), by decide +kernel⟩
theorem wd136 : (Jvm.Cond.classLink "RuleReaderLaw" (13 : Nat) "java/lang/IndexOutOfBoundsException") ∈ wT := List.mem_filter.mpr ⟨List.mem_of_getElem? (i := 136) (by decide +kernel), by decide +kernel⟩
theorem wd137 : (Jvm.Cond.methodLink "RuleReaderLaw" (7 : Nat) ({ cls := "RuleReader", name := "feed", desc := "(IIIII)I" } : Jvm.MethodName)) ∈ wT := List.mem_filter.mpr ⟨List.mem_of_getElem? (i := 137) (by decide +kernel), by decide +kernel⟩
theorem wd138 : (Jvm.Cond.instanceMethod ({ cls := "RuleReader", name := "feed", desc := "(IIIII)I" } : Jvm.MethodName)) ∈ wT := List.mem_filter.mpr ⟨List.mem_of_getElem? (i := 138) (by decide +kernel), by decide +kernel⟩
theorem wd139 : (Jvm.Cond.selects "RuleReader" ({ cls := "RuleReader", name := "feed", desc := "(IIIII)I" } : Jvm.MethodName) ({ cls := "RuleReader", name := "feed", desc := "(IIIII)I" } : Jvm.MethodName)) ∈ wT := List.mem_filter.mpr ⟨List.mem_of_getElem? (i := 139) (by decide +kernel), by decide +kernel⟩
theorem wd140 : (Jvm.Cond.code ({ cls := "RuleReader", name := "feed", desc := "(IIIII)I" } : Jvm.MethodName) prog_1_method_2_code (6 : Nat) (Option.some Jvm.ClassFile.FieldType.int)) ∈ wT := List.mem_filter.mpr ⟨List.mem_of_getElem? (i := 140) (by decide +kernel), by decide +kernel⟩
theorem wd141 : (Jvm.Cond.methodLink "RuleReader" (29 : Nat) ({ cls := "RuleReader$Bytes", name := "hasRoomFor", desc := "(I)Z" } : Jvm.MethodName)) ∈ wT := List.mem_filter.mpr ⟨List.mem_of_getElem? (i := 141) (by decide +kernel), by decide +kernel⟩
theorem wd142 : (Jvm.Cond.instanceMethod ({ cls := "RuleReader$Bytes", name := "hasRoomFor", desc := "(I)Z" } : Jvm.MethodName)) ∈ wT := List.mem_filter.mpr ⟨List.mem_of_getElem? (i := 142) (by decide +kernel), by decide +kernel⟩
theorem wd143 : (Jvm.Cond.selects "RuleReader$Bytes" ({ cls := "RuleReader$Bytes", name := "hasRoomFor", desc := "(I)Z" } : Jvm.MethodName) ({ cls := "RuleReader$Bytes", name := "hasRoomFor", desc := "(I)Z" } : Jvm.MethodName)) ∈ wT := List.mem_filter.mpr ⟨List.mem_of_getElem? (i := 143) (by decide +kernel), by decide +kernel⟩
theorem wd144 : (Jvm.Cond.code ({ cls := "RuleReader$Bytes", name := "hasRoomFor", desc := "(I)Z" } : Jvm.MethodName) prog_2_method_3_code (2 : Nat) (Option.some Jvm.ClassFile.FieldType.boolean)) ∈ wT := List.mem_filter.mpr ⟨List.mem_of_getElem? (i := 144) (by decide +kernel), by decide +kernel⟩
theorem wd145 : (Jvm.Cond.classLink "RuleReader" (33 : Nat) "java/lang/IndexOutOfBoundsException") ∈ wT := List.mem_filter.mpr ⟨List.mem_of_getElem? (i := 145) (by decide +kernel), by decide +kernel⟩
theorem wd146 : (Jvm.Cond.instantiable "java/lang/IndexOutOfBoundsException" (6 : Nat)) ∈ wT := List.mem_filter.mpr ⟨List.mem_of_getElem? (i := 146) (by decide +kernel), by decide +kernel⟩
theorem wl147 : (Jvm.Cond.castable "java/lang/IndexOutOfBoundsException" "java/lang/IndexOutOfBoundsException") ∈ lw_tbl := List.mem_of_getElem? (i := 147) (by decide +kernel)
theorem wl148 : (Jvm.Cond.declares ({ cls := "java/lang/RuntimeException", name := "<init>", desc := "()V" } : Jvm.MethodName)) ∈ lw_tbl := List.mem_of_getElem? (i := 148) (by decide +kernel)
theorem wl149 : (Jvm.Cond.declares ({ cls := "java/lang/RuntimeException", name := "<init>", desc := "(Ljava/lang/String;)V" } : Jvm.MethodName)) ∈ lw_tbl := List.mem_of_getElem? (i := 149) (by decide +kernel)
theorem wl150 : (Jvm.Cond.declares ({ cls := "java/lang/Exception", name := "<init>", desc := "()V" } : Jvm.MethodName)) ∈ lw_tbl := List.mem_of_getElem? (i := 150) (by decide +kernel)
theorem wl151 : (Jvm.Cond.declares ({ cls := "java/lang/Exception", name := "<init>", desc := "(Ljava/lang/String;)V" } : Jvm.MethodName)) ∈ lw_tbl := List.mem_of_getElem? (i := 151) (by decide +kernel)
theorem wl152 : (Jvm.Cond.declares ({ cls := "java/lang/Throwable", name := "<init>", desc := "()V" } : Jvm.MethodName)) ∈ lw_tbl := List.mem_of_getElem? (i := 152) (by decide +kernel)
theorem wl153 : (Jvm.Cond.declares ({ cls := "java/lang/Throwable", name := "<init>", desc := "(Ljava/lang/String;)V" } : Jvm.MethodName)) ∈ lw_tbl := List.mem_of_getElem? (i := 153) (by decide +kernel)
theorem wd154 : (Jvm.Cond.selects "java/lang/IndexOutOfBoundsException" ({ cls := "java/lang/Throwable", name := "fillInStackTrace", desc := "(I)Ljava/lang/Throwable;" } : Jvm.MethodName) ({ cls := "java/lang/Throwable", name := "fillInStackTrace", desc := "(I)Ljava/lang/Throwable;" } : Jvm.MethodName)) ∈ wT := List.mem_filter.mpr ⟨List.mem_of_getElem? (i := 154) (by decide +kernel), by decide +kernel⟩
theorem wd155 : (Jvm.Cond.selects "java/lang/IndexOutOfBoundsException" ({ cls := "java/lang/Throwable", name := "fillInStackTrace", desc := "()Ljava/lang/Throwable;" } : Jvm.MethodName) ({ cls := "java/lang/Throwable", name := "fillInStackTrace", desc := "()Ljava/lang/Throwable;" } : Jvm.MethodName)) ∈ wT := List.mem_filter.mpr ⟨List.mem_of_getElem? (i := 155) (by decide +kernel), by decide +kernel⟩
theorem wd156 : (Jvm.Cond.lays "java/lang/IndexOutOfBoundsException" "java/lang/Throwable" "cause" "Ljava/lang/Throwable;") ∈ wT := List.mem_filter.mpr ⟨List.mem_of_getElem? (i := 156) (by decide +kernel), by decide +kernel⟩
theorem wd157 : (Jvm.Cond.lays "java/lang/Throwable" "java/lang/Throwable" "cause" "Ljava/lang/Throwable;") ∈ wT := List.mem_filter.mpr ⟨List.mem_of_getElem? (i := 157) (by decide +kernel), by decide +kernel⟩
theorem wd158 : (Jvm.Cond.lays "java/lang/IndexOutOfBoundsException" "java/lang/Throwable" "stackTrace" "[Ljava/lang/StackTraceElement;") ∈ wT := List.mem_filter.mpr ⟨List.mem_of_getElem? (i := 158) (by decide +kernel), by decide +kernel⟩
theorem wd159 : (Jvm.Cond.lays "java/lang/Throwable" "java/lang/Throwable" "stackTrace" "[Ljava/lang/StackTraceElement;") ∈ wT := List.mem_filter.mpr ⟨List.mem_of_getElem? (i := 159) (by decide +kernel), by decide +kernel⟩
theorem wd160 : (Jvm.Cond.lays "java/lang/IndexOutOfBoundsException" "java/lang/Throwable" "suppressedExceptions" "Ljava/util/List;") ∈ wT := List.mem_filter.mpr ⟨List.mem_of_getElem? (i := 160) (by decide +kernel), by decide +kernel⟩
theorem wd161 : (Jvm.Cond.lays "java/lang/Throwable" "java/lang/Throwable" "suppressedExceptions" "Ljava/util/List;") ∈ wT := List.mem_filter.mpr ⟨List.mem_of_getElem? (i := 161) (by decide +kernel), by decide +kernel⟩
theorem wd162 : (Jvm.Cond.lays "java/lang/IndexOutOfBoundsException" "java/lang/Throwable" "detailMessage" "Ljava/lang/String;") ∈ wT := List.mem_filter.mpr ⟨List.mem_of_getElem? (i := 162) (by decide +kernel), by decide +kernel⟩
theorem wd163 : (Jvm.Cond.lays "java/lang/Throwable" "java/lang/Throwable" "detailMessage" "Ljava/lang/String;") ∈ wT := List.mem_filter.mpr ⟨List.mem_of_getElem? (i := 163) (by decide +kernel), by decide +kernel⟩
theorem wd164 : (Jvm.Cond.lays "java/lang/IndexOutOfBoundsException" "java/lang/Throwable" "backtrace" "Ljava/lang/Object;") ∈ wT := List.mem_filter.mpr ⟨List.mem_of_getElem? (i := 164) (by decide +kernel), by decide +kernel⟩
theorem wd165 : (Jvm.Cond.lays "java/lang/Throwable" "java/lang/Throwable" "backtrace" "Ljava/lang/Object;") ∈ wT := List.mem_filter.mpr ⟨List.mem_of_getElem? (i := 165) (by decide +kernel), by decide +kernel⟩
theorem wd166 : (Jvm.Cond.fieldLink "java/lang/Throwable" (198 : Nat) "java/lang/Throwable" "backtrace" "Ljava/lang/Object;") ∈ wT := List.mem_filter.mpr ⟨List.mem_of_getElem? (i := 166) (by decide +kernel), by decide +kernel⟩
theorem wd167 : (Jvm.Cond.superclass "java/lang/Throwable" "java/lang/Object") ∈ wT := List.mem_filter.mpr ⟨List.mem_of_getElem? (i := 167) (by decide +kernel), by decide +kernel⟩
theorem wd168 : (Jvm.Cond.instanceMethod ({ cls := "java/lang/Throwable", name := "<init>", desc := "()V" } : Jvm.MethodName)) ∈ wT := List.mem_filter.mpr ⟨List.mem_of_getElem? (i := 168) (by decide +kernel), by decide +kernel⟩
theorem wd169 : (Jvm.Cond.code ({ cls := "java/lang/Throwable", name := "<init>", desc := "()V" } : Jvm.MethodName) prog_17_method_1_code (1 : Nat) (Option.none : Option Jvm.ClassFile.FieldType)) ∈ wT := List.mem_filter.mpr ⟨List.mem_of_getElem? (i := 169) (by decide +kernel), by decide +kernel⟩
theorem wd170 : (Jvm.Cond.methodLink "java/lang/Throwable" (1 : Nat) ({ cls := "java/lang/Object", name := "<init>", desc := "()V" } : Jvm.MethodName)) ∈ wT := List.mem_filter.mpr ⟨List.mem_of_getElem? (i := 170) (by decide +kernel), by decide +kernel⟩
theorem wd171 : (Jvm.Cond.fieldLink "java/lang/Throwable" (13 : Nat) "java/lang/Throwable" "UNASSIGNED_STACK" "[Ljava/lang/StackTraceElement;") ∈ wT := List.mem_filter.mpr ⟨List.mem_of_getElem? (i := 171) (by decide +kernel), by decide +kernel⟩
theorem wl172 : (Jvm.Cond.laysStatic "java/lang/Throwable" "UNASSIGNED_STACK" "[Ljava/lang/StackTraceElement;") ∈ lw_tbl := List.mem_of_getElem? (i := 172) (by decide +kernel)
theorem wd173 : (Jvm.Cond.fieldLink "java/lang/Throwable" (20 : Nat) "java/lang/Throwable" "SUPPRESSED_SENTINEL" "Ljava/util/List;") ∈ wT := List.mem_filter.mpr ⟨List.mem_of_getElem? (i := 173) (by decide +kernel), by decide +kernel⟩
theorem wl174 : (Jvm.Cond.laysStatic "java/lang/Throwable" "SUPPRESSED_SENTINEL" "Ljava/util/List;") ∈ lw_tbl := List.mem_of_getElem? (i := 174) (by decide +kernel)
theorem wd175 : (Jvm.Cond.methodLink "java/lang/Throwable" (27 : Nat) ({ cls := "java/lang/Throwable", name := "fillInStackTrace", desc := "()Ljava/lang/Throwable;" } : Jvm.MethodName)) ∈ wT := List.mem_filter.mpr ⟨List.mem_of_getElem? (i := 175) (by decide +kernel), by decide +kernel⟩
theorem wd176 : (Jvm.Cond.instanceMethod ({ cls := "java/lang/Throwable", name := "fillInStackTrace", desc := "()Ljava/lang/Throwable;" } : Jvm.MethodName)) ∈ wT := List.mem_filter.mpr ⟨List.mem_of_getElem? (i := 176) (by decide +kernel), by decide +kernel⟩
theorem wd177 : (Jvm.Cond.sameMethod "java/lang/Throwable" "java/lang/Throwable" "fillInStackTrace" "()Ljava/lang/Throwable;") ∈ wT := List.mem_filter.mpr ⟨List.mem_of_getElem? (i := 177) (by decide +kernel), by decide +kernel⟩
theorem wd178 : (Jvm.Cond.selects "java/lang/ArithmeticException" ({ cls := "java/lang/Throwable", name := "fillInStackTrace", desc := "()Ljava/lang/Throwable;" } : Jvm.MethodName) ({ cls := "java/lang/Throwable", name := "fillInStackTrace", desc := "()Ljava/lang/Throwable;" } : Jvm.MethodName)) ∈ wT := List.mem_filter.mpr ⟨List.mem_of_getElem? (i := 178) (by decide +kernel), by decide +kernel⟩
theorem wd179 : (Jvm.Cond.selects "java/lang/IllegalArgumentException" ({ cls := "java/lang/Throwable", name := "fillInStackTrace", desc := "()Ljava/lang/Throwable;" } : Jvm.MethodName) ({ cls := "java/lang/Throwable", name := "fillInStackTrace", desc := "()Ljava/lang/Throwable;" } : Jvm.MethodName)) ∈ wT := List.mem_filter.mpr ⟨List.mem_of_getElem? (i := 179) (by decide +kernel), by decide +kernel⟩
theorem wd180 : (Jvm.Cond.selects "java/lang/UnsupportedOperationException" ({ cls := "java/lang/Throwable", name := "fillInStackTrace", desc := "()Ljava/lang/Throwable;" } : Jvm.MethodName) ({ cls := "java/lang/Throwable", name := "fillInStackTrace", desc := "()Ljava/lang/Throwable;" } : Jvm.MethodName)) ∈ wT := List.mem_filter.mpr ⟨List.mem_of_getElem? (i := 180) (by decide +kernel), by decide +kernel⟩
theorem wd181 : (Jvm.Cond.codeSync ({ cls := "java/lang/Throwable", name := "fillInStackTrace", desc := "()Ljava/lang/Throwable;" } : Jvm.MethodName) prog_17_method_18_code (1 : Nat) (Option.some (Jvm.ClassFile.FieldType.object "java/lang/Throwable"))) ∈ wT := List.mem_filter.mpr ⟨List.mem_of_getElem? (i := 181) (by decide +kernel), by decide +kernel⟩
theorem wd182 : (Jvm.Cond.methodLink "java/lang/Throwable" (202 : Nat) ({ cls := "java/lang/Throwable", name := "fillInStackTrace", desc := "(I)Ljava/lang/Throwable;" } : Jvm.MethodName)) ∈ wT := List.mem_filter.mpr ⟨List.mem_of_getElem? (i := 182) (by decide +kernel), by decide +kernel⟩
theorem wl183 : (Jvm.Cond.privateMethod ({ cls := "java/lang/Throwable", name := "fillInStackTrace", desc := "(I)Ljava/lang/Throwable;" } : Jvm.MethodName)) ∈ lw_tbl := List.mem_of_getElem? (i := 183) (by decide +kernel)
theorem wd184 : (Jvm.Cond.instanceMethod ({ cls := "java/lang/Throwable", name := "fillInStackTrace", desc := "(I)Ljava/lang/Throwable;" } : Jvm.MethodName)) ∈ wT := List.mem_filter.mpr ⟨List.mem_of_getElem? (i := 184) (by decide +kernel), by decide +kernel⟩
theorem wd185 : (Jvm.Cond.instantiable "java/lang/Throwable" (6 : Nat)) ∈ wT := List.mem_filter.mpr ⟨List.mem_of_getElem? (i := 185) (by decide +kernel), by decide +kernel⟩
theorem wd186 : (Jvm.Cond.native ({ cls := "java/lang/Throwable", name := "fillInStackTrace", desc := "(I)Ljava/lang/Throwable;" } : Jvm.MethodName)) ∈ wT := List.mem_filter.mpr ⟨List.mem_of_getElem? (i := 186) (by decide +kernel), by decide +kernel⟩
theorem wl187 : (Jvm.Cond.stringRef "RuleReader" (35 : Nat) "the tape would have more than 4096 bytes") ∈ lw_tbl := List.mem_of_getElem? (i := 187) (by decide +kernel)
theorem wd188 : (Jvm.Cond.methodLink "RuleReader" (37 : Nat) ({ cls := "java/lang/IndexOutOfBoundsException", name := "<init>", desc := "(Ljava/lang/String;)V" } : Jvm.MethodName)) ∈ wT := List.mem_filter.mpr ⟨List.mem_of_getElem? (i := 188) (by decide +kernel), by decide +kernel⟩
theorem wd189 : (Jvm.Cond.instanceMethod ({ cls := "java/lang/IndexOutOfBoundsException", name := "<init>", desc := "(Ljava/lang/String;)V" } : Jvm.MethodName)) ∈ wT := List.mem_filter.mpr ⟨List.mem_of_getElem? (i := 189) (by decide +kernel), by decide +kernel⟩
theorem wd190 : (Jvm.Cond.code ({ cls := "java/lang/IndexOutOfBoundsException", name := "<init>", desc := "(Ljava/lang/String;)V" } : Jvm.MethodName) prog_11_method_2_code (2 : Nat) (Option.none : Option Jvm.ClassFile.FieldType)) ∈ wT := List.mem_filter.mpr ⟨List.mem_of_getElem? (i := 190) (by decide +kernel), by decide +kernel⟩
theorem wd191 : (Jvm.Cond.methodLink "java/lang/IndexOutOfBoundsException" (7 : Nat) ({ cls := "java/lang/RuntimeException", name := "<init>", desc := "(Ljava/lang/String;)V" } : Jvm.MethodName)) ∈ wT := List.mem_filter.mpr ⟨List.mem_of_getElem? (i := 191) (by decide +kernel), by decide +kernel⟩
theorem wd192 : (Jvm.Cond.instanceMethod ({ cls := "java/lang/RuntimeException", name := "<init>", desc := "(Ljava/lang/String;)V" } : Jvm.MethodName)) ∈ wT := List.mem_filter.mpr ⟨List.mem_of_getElem? (i := 192) (by decide +kernel), by decide +kernel⟩
theorem wd193 : (Jvm.Cond.code ({ cls := "java/lang/RuntimeException", name := "<init>", desc := "(Ljava/lang/String;)V" } : Jvm.MethodName) prog_14_method_2_code (2 : Nat) (Option.none : Option Jvm.ClassFile.FieldType)) ∈ wT := List.mem_filter.mpr ⟨List.mem_of_getElem? (i := 193) (by decide +kernel), by decide +kernel⟩
theorem wd194 : (Jvm.Cond.methodLink "java/lang/RuntimeException" (7 : Nat) ({ cls := "java/lang/Exception", name := "<init>", desc := "(Ljava/lang/String;)V" } : Jvm.MethodName)) ∈ wT := List.mem_filter.mpr ⟨List.mem_of_getElem? (i := 194) (by decide +kernel), by decide +kernel⟩
theorem wd195 : (Jvm.Cond.instanceMethod ({ cls := "java/lang/Exception", name := "<init>", desc := "(Ljava/lang/String;)V" } : Jvm.MethodName)) ∈ wT := List.mem_filter.mpr ⟨List.mem_of_getElem? (i := 195) (by decide +kernel), by decide +kernel⟩
theorem wd196 : (Jvm.Cond.code ({ cls := "java/lang/Exception", name := "<init>", desc := "(Ljava/lang/String;)V" } : Jvm.MethodName) prog_9_method_2_code (2 : Nat) (Option.none : Option Jvm.ClassFile.FieldType)) ∈ wT := List.mem_filter.mpr ⟨List.mem_of_getElem? (i := 196) (by decide +kernel), by decide +kernel⟩
theorem wd197 : (Jvm.Cond.methodLink "java/lang/Exception" (7 : Nat) ({ cls := "java/lang/Throwable", name := "<init>", desc := "(Ljava/lang/String;)V" } : Jvm.MethodName)) ∈ wT := List.mem_filter.mpr ⟨List.mem_of_getElem? (i := 197) (by decide +kernel), by decide +kernel⟩
theorem wd198 : (Jvm.Cond.instanceMethod ({ cls := "java/lang/Throwable", name := "<init>", desc := "(Ljava/lang/String;)V" } : Jvm.MethodName)) ∈ wT := List.mem_filter.mpr ⟨List.mem_of_getElem? (i := 198) (by decide +kernel), by decide +kernel⟩
theorem wd199 : (Jvm.Cond.code ({ cls := "java/lang/Throwable", name := "<init>", desc := "(Ljava/lang/String;)V" } : Jvm.MethodName) prog_17_method_2_code (2 : Nat) (Option.none : Option Jvm.ClassFile.FieldType)) ∈ wT := List.mem_filter.mpr ⟨List.mem_of_getElem? (i := 199) (by decide +kernel), by decide +kernel⟩
theorem wd201 : (Jvm.Cond.fieldLink "java/lang/Throwable" (31 : Nat) "java/lang/Throwable" "detailMessage" "Ljava/lang/String;") ∈ wT := List.mem_filter.mpr ⟨List.mem_of_getElem? (i := 201) (by decide +kernel), by decide +kernel⟩
theorem wd202 : (Jvm.Cond.fieldLink "java/lang/Throwable" (7 : Nat) "java/lang/Throwable" "cause" "Ljava/lang/Throwable;") ∈ wT := List.mem_filter.mpr ⟨List.mem_of_getElem? (i := 202) (by decide +kernel), by decide +kernel⟩
theorem wd203 : (Jvm.Cond.fieldLink "java/lang/Throwable" (17 : Nat) "java/lang/Throwable" "stackTrace" "[Ljava/lang/StackTraceElement;") ∈ wT := List.mem_filter.mpr ⟨List.mem_of_getElem? (i := 203) (by decide +kernel), by decide +kernel⟩
theorem wd204 : (Jvm.Cond.fieldLink "java/lang/Throwable" (24 : Nat) "java/lang/Throwable" "suppressedExceptions" "Ljava/util/List;") ∈ wT := List.mem_filter.mpr ⟨List.mem_of_getElem? (i := 204) (by decide +kernel), by decide +kernel⟩
theorem wd205 : (Jvm.Cond.soleField "java/lang/Throwable" "backtrace") ∈ wT := List.mem_filter.mpr ⟨List.mem_of_getElem? (i := 205) (by decide +kernel), by decide +kernel⟩
theorem wd206 : (Jvm.Cond.soleField "java/lang/Throwable" "detailMessage") ∈ wT := List.mem_filter.mpr ⟨List.mem_of_getElem? (i := 206) (by decide +kernel), by decide +kernel⟩
theorem wd207 : (Jvm.Cond.soleField "java/lang/Throwable" "cause") ∈ wT := List.mem_filter.mpr ⟨List.mem_of_getElem? (i := 207) (by decide +kernel), by decide +kernel⟩
theorem wd208 : (Jvm.Cond.soleField "java/lang/Throwable" "stackTrace") ∈ wT := List.mem_filter.mpr ⟨List.mem_of_getElem? (i := 208) (by decide +kernel), by decide +kernel⟩
theorem wd209 : (Jvm.Cond.lays "java/lang/IndexOutOfBoundsException" "java/lang/Throwable" "depth" "I") ∈ wT := List.mem_filter.mpr ⟨List.mem_of_getElem? (i := 209) (by decide +kernel), by decide +kernel⟩
theorem wd210 : (Jvm.Cond.soleField "java/lang/Throwable" "depth") ∈ wT := List.mem_filter.mpr ⟨List.mem_of_getElem? (i := 210) (by decide +kernel), by decide +kernel⟩
theorem wd211 : (Jvm.Cond.soleField "java/lang/Throwable" "suppressedExceptions") ∈ wT := List.mem_filter.mpr ⟨List.mem_of_getElem? (i := 211) (by decide +kernel), by decide +kernel⟩
theorem wd212 : (Jvm.Cond.superclass "java/lang/IndexOutOfBoundsException" "java/lang/RuntimeException") ∈ wT := List.mem_filter.mpr ⟨List.mem_of_getElem? (i := 212) (by decide +kernel), by decide +kernel⟩
theorem wd213 : (Jvm.Cond.methodLink "RuleReader" (40 : Nat) ({ cls := "RuleReader$Bytes", name := "appendNumber", desc := "(JI)V" } : Jvm.MethodName)) ∈ wT := List.mem_filter.mpr ⟨List.mem_of_getElem? (i := 213) (by decide +kernel), by decide +kernel⟩
theorem wd214 : (Jvm.Cond.instanceMethod ({ cls := "RuleReader$Bytes", name := "appendNumber", desc := "(JI)V" } : Jvm.MethodName)) ∈ wT := List.mem_filter.mpr ⟨List.mem_of_getElem? (i := 214) (by decide +kernel), by decide +kernel⟩
theorem wd215 : (Jvm.Cond.selects "RuleReader$Bytes" ({ cls := "RuleReader$Bytes", name := "appendNumber", desc := "(JI)V" } : Jvm.MethodName) ({ cls := "RuleReader$Bytes", name := "appendNumber", desc := "(JI)V" } : Jvm.MethodName)) ∈ wT := List.mem_filter.mpr ⟨List.mem_of_getElem? (i := 215) (by decide +kernel), by decide +kernel⟩
theorem wd216 : (Jvm.Cond.code ({ cls := "RuleReader$Bytes", name := "appendNumber", desc := "(JI)V" } : Jvm.MethodName) prog_2_method_7_code (5 : Nat) (Option.none : Option Jvm.ClassFile.FieldType)) ∈ wT := List.mem_filter.mpr ⟨List.mem_of_getElem? (i := 216) (by decide +kernel), by decide +kernel⟩
theorem wd217 : (Jvm.Cond.methodLink "RuleReader$Bytes" (31 : Nat) ({ cls := "java/lang/Math", name := "min", desc := "(II)I" } : Jvm.MethodName)) ∈ wT := List.mem_filter.mpr ⟨List.mem_of_getElem? (i := 217) (by decide +kernel), by decide +kernel⟩
theorem wd218 : (Jvm.Cond.static ({ cls := "java/lang/Math", name := "min", desc := "(II)I" } : Jvm.MethodName)) ∈ wT := List.mem_filter.mpr ⟨List.mem_of_getElem? (i := 218) (by decide +kernel), by decide +kernel⟩
theorem wd219 : (Jvm.Cond.code ({ cls := "java/lang/Math", name := "min", desc := "(II)I" } : Jvm.MethodName) prog_13_method_69_code (2 : Nat) (Option.some Jvm.ClassFile.FieldType.int)) ∈ wT := List.mem_filter.mpr ⟨List.mem_of_getElem? (i := 219) (by decide +kernel), by decide +kernel⟩
theorem wd220 : (Jvm.Cond.methodLink "RuleReader$Bytes" (37 : Nat) ({ cls := "RuleReader$Bytes", name := "append", desc := "(I)V" } : Jvm.MethodName)) ∈ wT := List.mem_filter.mpr ⟨List.mem_of_getElem? (i := 220) (by decide +kernel), by decide +kernel⟩
theorem wd221 : (Jvm.Cond.instanceMethod ({ cls := "RuleReader$Bytes", name := "append", desc := "(I)V" } : Jvm.MethodName)) ∈ wT := List.mem_filter.mpr ⟨List.mem_of_getElem? (i := 221) (by decide +kernel), by decide +kernel⟩
theorem wd222 : (Jvm.Cond.selects "RuleReader$Bytes" ({ cls := "RuleReader$Bytes", name := "append", desc := "(I)V" } : Jvm.MethodName) ({ cls := "RuleReader$Bytes", name := "append", desc := "(I)V" } : Jvm.MethodName)) ∈ wT := List.mem_filter.mpr ⟨List.mem_of_getElem? (i := 222) (by decide +kernel), by decide +kernel⟩
theorem wd223 : (Jvm.Cond.code ({ cls := "RuleReader$Bytes", name := "append", desc := "(I)V" } : Jvm.MethodName) prog_2_method_6_code (2 : Nat) (Option.none : Option Jvm.ClassFile.FieldType)) ∈ wT := List.mem_filter.mpr ⟨List.mem_of_getElem? (i := 223) (by decide +kernel), by decide +kernel⟩
theorem wd224 : (Jvm.Cond.methodLink "RuleReader$Bytes" (19 : Nat) ({ cls := "RuleReader$Bytes", name := "hasRoomFor", desc := "(I)Z" } : Jvm.MethodName)) ∈ wT := List.mem_filter.mpr ⟨List.mem_of_getElem? (i := 224) (by decide +kernel), by decide +kernel⟩
theorem wd225 : (Jvm.Cond.methodLink "RuleReader$Bytes" (23 : Nat) ({ cls := "RuleReader$Bytes", name := "lengthen", desc := "(I)V" } : Jvm.MethodName)) ∈ wT := List.mem_filter.mpr ⟨List.mem_of_getElem? (i := 225) (by decide +kernel), by decide +kernel⟩
theorem wl226 : (Jvm.Cond.privateMethod ({ cls := "RuleReader$Bytes", name := "lengthen", desc := "(I)V" } : Jvm.MethodName)) ∈ lw_tbl := List.mem_of_getElem? (i := 226) (by decide +kernel)
theorem wd227 : (Jvm.Cond.instanceMethod ({ cls := "RuleReader$Bytes", name := "lengthen", desc := "(I)V" } : Jvm.MethodName)) ∈ wT := List.mem_filter.mpr ⟨List.mem_of_getElem? (i := 227) (by decide +kernel), by decide +kernel⟩
theorem wd228 : (Jvm.Cond.code ({ cls := "RuleReader$Bytes", name := "lengthen", desc := "(I)V" } : Jvm.MethodName) prog_2_method_13_code (3 : Nat) (Option.none : Option Jvm.ClassFile.FieldType)) ∈ wT := List.mem_filter.mpr ⟨List.mem_of_getElem? (i := 228) (by decide +kernel), by decide +kernel⟩
theorem wd229 : (Jvm.Cond.methodLink "RuleReader$Bytes" (57 : Nat) ({ cls := "java/lang/Math", name := "max", desc := "(II)I" } : Jvm.MethodName)) ∈ wT := List.mem_filter.mpr ⟨List.mem_of_getElem? (i := 229) (by decide +kernel), by decide +kernel⟩
theorem wd230 : (Jvm.Cond.static ({ cls := "java/lang/Math", name := "max", desc := "(II)I" } : Jvm.MethodName)) ∈ wT := List.mem_filter.mpr ⟨List.mem_of_getElem? (i := 230) (by decide +kernel), by decide +kernel⟩
theorem wd231 : (Jvm.Cond.code ({ cls := "java/lang/Math", name := "max", desc := "(II)I" } : Jvm.MethodName) prog_13_method_65_code (2 : Nat) (Option.some Jvm.ClassFile.FieldType.int)) ∈ wT := List.mem_filter.mpr ⟨List.mem_of_getElem? (i := 231) (by decide +kernel), by decide +kernel⟩
theorem wd232 : (Jvm.Cond.methodLink "RuleReader$Bytes" (60 : Nat) ({ cls := "java/util/Arrays", name := "copyOf", desc := "([BI)[B" } : Jvm.MethodName)) ∈ wT := List.mem_filter.mpr ⟨List.mem_of_getElem? (i := 232) (by decide +kernel), by decide +kernel⟩
theorem wd233 : (Jvm.Cond.static ({ cls := "java/util/Arrays", name := "copyOf", desc := "([BI)[B" } : Jvm.MethodName)) ∈ wT := List.mem_filter.mpr ⟨List.mem_of_getElem? (i := 233) (by decide +kernel), by decide +kernel⟩
theorem wd234 : (Jvm.Cond.code ({ cls := "java/util/Arrays", name := "copyOf", desc := "([BI)[B" } : Jvm.MethodName) prog_19_method_121_code (3 : Nat) (Option.some (Jvm.ClassFile.FieldType.array Jvm.ClassFile.FieldType.byte))) ∈ wT := List.mem_filter.mpr ⟨List.mem_of_getElem? (i := 234) (by decide +kernel), by decide +kernel⟩
theorem wd235 : (Jvm.Cond.methodLink "java/util/Arrays" (310 : Nat) ({ cls := "[B", name := "clone", desc := "()Ljava/lang/Object;" } : Jvm.MethodName)) ∈ wT := List.mem_filter.mpr ⟨List.mem_of_getElem? (i := 235) (by decide +kernel), by decide +kernel⟩
theorem wd236 : (Jvm.Cond.sameMethod "[B" "java/lang/Object" "clone" "()Ljava/lang/Object;") ∈ wT := List.mem_filter.mpr ⟨List.mem_of_getElem? (i := 236) (by decide +kernel), by decide +kernel⟩
theorem wd237 : (Jvm.Cond.native ({ cls := "java/lang/Object", name := "clone", desc := "()Ljava/lang/Object;" } : Jvm.MethodName)) ∈ wT := List.mem_filter.mpr ⟨List.mem_of_getElem? (i := 237) (by decide +kernel), by decide +kernel⟩
theorem wd238 : (Jvm.Cond.instanceMethod ({ cls := "java/lang/Object", name := "clone", desc := "()Ljava/lang/Object;" } : Jvm.MethodName)) ∈ wT := List.mem_filter.mpr ⟨List.mem_of_getElem? (i := 238) (by decide +kernel), by decide +kernel⟩
theorem wd239 : (Jvm.Cond.selects "[B" ({ cls := "[B", name := "clone", desc := "()Ljava/lang/Object;" } : Jvm.MethodName) ({ cls := "java/lang/Object", name := "clone", desc := "()Ljava/lang/Object;" } : Jvm.MethodName)) ∈ wT := List.mem_filter.mpr ⟨List.mem_of_getElem? (i := 239) (by decide +kernel), by decide +kernel⟩
theorem wl240 : (Jvm.Cond.castable "[B" "java/lang/Cloneable") ∈ lw_tbl := List.mem_of_getElem? (i := 240) (by decide +kernel)
theorem wd241 : (Jvm.Cond.classLink "java/util/Arrays" (311 : Nat) "[B") ∈ wT := List.mem_filter.mpr ⟨List.mem_of_getElem? (i := 241) (by decide +kernel), by decide +kernel⟩
theorem wd242 : (Jvm.Cond.methodLink "java/util/Arrays" (304 : Nat) ({ cls := "java/lang/Math", name := "min", desc := "(II)I" } : Jvm.MethodName)) ∈ wT := List.mem_filter.mpr ⟨List.mem_of_getElem? (i := 242) (by decide +kernel), by decide +kernel⟩
theorem wd243 : (Jvm.Cond.methodLink "java/util/Arrays" (150 : Nat) ({ cls := "java/lang/System", name := "arraycopy", desc := "(Ljava/lang/Object;ILjava/lang/Object;II)V" } : Jvm.MethodName)) ∈ wT := List.mem_filter.mpr ⟨List.mem_of_getElem? (i := 243) (by decide +kernel), by decide +kernel⟩
theorem wd244 : (Jvm.Cond.static ({ cls := "java/lang/System", name := "arraycopy", desc := "(Ljava/lang/Object;ILjava/lang/Object;II)V" } : Jvm.MethodName)) ∈ wT := List.mem_filter.mpr ⟨List.mem_of_getElem? (i := 244) (by decide +kernel), by decide +kernel⟩
theorem wd245 : (Jvm.Cond.native ({ cls := "java/lang/System", name := "arraycopy", desc := "(Ljava/lang/Object;ILjava/lang/Object;II)V" } : Jvm.MethodName)) ∈ wT := List.mem_filter.mpr ⟨List.mem_of_getElem? (i := 245) (by decide +kernel), by decide +kernel⟩
theorem wd246 : (Jvm.Cond.methodLink "RuleReader$Bytes" (27 : Nat) ({ cls := "RuleReader$Bytes", name := "set", desc := "(II)V" } : Jvm.MethodName)) ∈ wT := List.mem_filter.mpr ⟨List.mem_of_getElem? (i := 246) (by decide +kernel), by decide +kernel⟩
theorem wl247 : (Jvm.Cond.privateMethod ({ cls := "RuleReader$Bytes", name := "set", desc := "(II)V" } : Jvm.MethodName)) ∈ lw_tbl := List.mem_of_getElem? (i := 247) (by decide +kernel)
theorem wd248 : (Jvm.Cond.instanceMethod ({ cls := "RuleReader$Bytes", name := "set", desc := "(II)V" } : Jvm.MethodName)) ∈ wT := List.mem_filter.mpr ⟨List.mem_of_getElem? (i := 248) (by decide +kernel), by decide +kernel⟩
theorem wd249 : (Jvm.Cond.code ({ cls := "RuleReader$Bytes", name := "set", desc := "(II)V" } : Jvm.MethodName) prog_2_method_12_code (3 : Nat) (Option.none : Option Jvm.ClassFile.FieldType)) ∈ wT := List.mem_filter.mpr ⟨List.mem_of_getElem? (i := 249) (by decide +kernel), by decide +kernel⟩
theorem wd250 : (Jvm.Cond.methodLink "RuleReader" (44 : Nat) ({ cls := "RuleReader$Bytes", name := "size", desc := "()I" } : Jvm.MethodName)) ∈ wT := List.mem_filter.mpr ⟨List.mem_of_getElem? (i := 250) (by decide +kernel), by decide +kernel⟩
theorem wd251 : (Jvm.Cond.instanceMethod ({ cls := "RuleReader$Bytes", name := "size", desc := "()I" } : Jvm.MethodName)) ∈ wT := List.mem_filter.mpr ⟨List.mem_of_getElem? (i := 251) (by decide +kernel), by decide +kernel⟩
theorem wd252 : (Jvm.Cond.selects "RuleReader$Bytes" ({ cls := "RuleReader$Bytes", name := "size", desc := "()I" } : Jvm.MethodName) ({ cls := "RuleReader$Bytes", name := "size", desc := "()I" } : Jvm.MethodName)) ∈ wT := List.mem_filter.mpr ⟨List.mem_of_getElem? (i := 252) (by decide +kernel), by decide +kernel⟩
theorem wd253 : (Jvm.Cond.code ({ cls := "RuleReader$Bytes", name := "size", desc := "()I" } : Jvm.MethodName) prog_2_method_2_code (1 : Nat) (Option.some Jvm.ClassFile.FieldType.int)) ∈ wT := List.mem_filter.mpr ⟨List.mem_of_getElem? (i := 253) (by decide +kernel), by decide +kernel⟩
theorem wd254 : (Jvm.Cond.methodLink "RuleReaderLaw" (68 : Nat) ({ cls := "RuleReaderLaw", name := "end", desc := "(LRuleReader;I[J)I" } : Jvm.MethodName)) ∈ wT := List.mem_filter.mpr ⟨List.mem_of_getElem? (i := 254) (by decide +kernel), by decide +kernel⟩
theorem wd255 : (Jvm.Cond.static ({ cls := "RuleReaderLaw", name := "end", desc := "(LRuleReader;I[J)I" } : Jvm.MethodName)) ∈ wT := List.mem_filter.mpr ⟨List.mem_of_getElem? (i := 255) (by decide +kernel), by decide +kernel⟩
theorem wd256 : (Jvm.Cond.codeWith ({ cls := "RuleReaderLaw", name := "end", desc := "(LRuleReader;I[J)I" } : Jvm.MethodName) method_4_code (4 : Nat) (Option.some Jvm.ClassFile.FieldType.int) [((0 : Nat), (9 : Nat), (12 : Nat), (19 : Nat))]) ∈ wT := List.mem_filter.mpr ⟨List.mem_of_getElem? (i := 256) (by decide +kernel), by decide +kernel⟩
theorem wd257 : (Jvm.Cond.classLink "RuleReaderLaw" (19 : Nat) "java/lang/IllegalArgumentException") ∈ wT := List.mem_filter.mpr ⟨List.mem_of_getElem? (i := 257) (by decide +kernel), by decide +kernel⟩
theorem wd258 : (Jvm.Cond.methodLink "RuleReaderLaw" (15 : Nat) ({ cls := "RuleReader", name := "end", desc := "(I)I" } : Jvm.MethodName)) ∈ wT := List.mem_filter.mpr ⟨List.mem_of_getElem? (i := 258) (by decide +kernel), by decide +kernel⟩
theorem wd259 : (Jvm.Cond.instanceMethod ({ cls := "RuleReader", name := "end", desc := "(I)I" } : Jvm.MethodName)) ∈ wT := List.mem_filter.mpr ⟨List.mem_of_getElem? (i := 259) (by decide +kernel), by decide +kernel⟩
theorem wd260 : (Jvm.Cond.selects "RuleReader" ({ cls := "RuleReader", name := "end", desc := "(I)I" } : Jvm.MethodName) ({ cls := "RuleReader", name := "end", desc := "(I)I" } : Jvm.MethodName)) ∈ wT := List.mem_filter.mpr ⟨List.mem_of_getElem? (i := 260) (by decide +kernel), by decide +kernel⟩
theorem wd261 : (Jvm.Cond.code ({ cls := "RuleReader", name := "end", desc := "(I)I" } : Jvm.MethodName) prog_1_method_3_code (2 : Nat) (Option.some Jvm.ClassFile.FieldType.int)) ∈ wT := List.mem_filter.mpr ⟨List.mem_of_getElem? (i := 261) (by decide +kernel), by decide +kernel⟩
theorem wd262 : (Jvm.Cond.classLink "RuleReader" (48 : Nat) "java/lang/IllegalArgumentException") ∈ wT := List.mem_filter.mpr ⟨List.mem_of_getElem? (i := 262) (by decide +kernel), by decide +kernel⟩
theorem wd263 : (Jvm.Cond.instantiable "java/lang/IllegalArgumentException" (6 : Nat)) ∈ wT := List.mem_filter.mpr ⟨List.mem_of_getElem? (i := 263) (by decide +kernel), by decide +kernel⟩
theorem wl264 : (Jvm.Cond.castable "java/lang/IllegalArgumentException" "java/lang/IllegalArgumentException") ∈ lw_tbl := List.mem_of_getElem? (i := 264) (by decide +kernel)
theorem wd265 : (Jvm.Cond.selects "java/lang/IllegalArgumentException" ({ cls := "java/lang/Throwable", name := "fillInStackTrace", desc := "(I)Ljava/lang/Throwable;" } : Jvm.MethodName) ({ cls := "java/lang/Throwable", name := "fillInStackTrace", desc := "(I)Ljava/lang/Throwable;" } : Jvm.MethodName)) ∈ wT := List.mem_filter.mpr ⟨List.mem_of_getElem? (i := 265) (by decide +kernel), by decide +kernel⟩
theorem wd266 : (Jvm.Cond.lays "java/lang/IllegalArgumentException" "java/lang/Throwable" "cause" "Ljava/lang/Throwable;") ∈ wT := List.mem_filter.mpr ⟨List.mem_of_getElem? (i := 266) (by decide +kernel), by decide +kernel⟩
theorem wd267 : (Jvm.Cond.lays "java/lang/IllegalArgumentException" "java/lang/Throwable" "stackTrace" "[Ljava/lang/StackTraceElement;") ∈ wT := List.mem_filter.mpr ⟨List.mem_of_getElem? (i := 267) (by decide +kernel), by decide +kernel⟩
theorem wd268 : (Jvm.Cond.lays "java/lang/IllegalArgumentException" "java/lang/Throwable" "suppressedExceptions" "Ljava/util/List;") ∈ wT := List.mem_filter.mpr ⟨List.mem_of_getElem? (i := 268) (by decide +kernel), by decide +kernel⟩
theorem wd269 : (Jvm.Cond.lays "java/lang/IllegalArgumentException" "java/lang/Throwable" "detailMessage" "Ljava/lang/String;") ∈ wT := List.mem_filter.mpr ⟨List.mem_of_getElem? (i := 269) (by decide +kernel), by decide +kernel⟩
theorem wd270 : (Jvm.Cond.lays "java/lang/IllegalArgumentException" "java/lang/Throwable" "backtrace" "Ljava/lang/Object;") ∈ wT := List.mem_filter.mpr ⟨List.mem_of_getElem? (i := 270) (by decide +kernel), by decide +kernel⟩
theorem wl271 : (Jvm.Cond.stringRef "RuleReader" (50 : Nat) "the tape has not so many bytes") ∈ lw_tbl := List.mem_of_getElem? (i := 271) (by decide +kernel)
theorem wd272 : (Jvm.Cond.methodLink "RuleReader" (52 : Nat) ({ cls := "java/lang/IllegalArgumentException", name := "<init>", desc := "(Ljava/lang/String;)V" } : Jvm.MethodName)) ∈ wT := List.mem_filter.mpr ⟨List.mem_of_getElem? (i := 272) (by decide +kernel), by decide +kernel⟩
theorem wd273 : (Jvm.Cond.instanceMethod ({ cls := "java/lang/IllegalArgumentException", name := "<init>", desc := "(Ljava/lang/String;)V" } : Jvm.MethodName)) ∈ wT := List.mem_filter.mpr ⟨List.mem_of_getElem? (i := 273) (by decide +kernel), by decide +kernel⟩
theorem wd274 : (Jvm.Cond.code ({ cls := "java/lang/IllegalArgumentException", name := "<init>", desc := "(Ljava/lang/String;)V" } : Jvm.MethodName) prog_10_method_2_code (2 : Nat) (Option.none : Option Jvm.ClassFile.FieldType)) ∈ wT := List.mem_filter.mpr ⟨List.mem_of_getElem? (i := 274) (by decide +kernel), by decide +kernel⟩
theorem wd275 : (Jvm.Cond.methodLink "java/lang/IllegalArgumentException" (7 : Nat) ({ cls := "java/lang/RuntimeException", name := "<init>", desc := "(Ljava/lang/String;)V" } : Jvm.MethodName)) ∈ wT := List.mem_filter.mpr ⟨List.mem_of_getElem? (i := 275) (by decide +kernel), by decide +kernel⟩
theorem wd276 : (Jvm.Cond.lays "java/lang/IllegalArgumentException" "java/lang/Throwable" "depth" "I") ∈ wT := List.mem_filter.mpr ⟨List.mem_of_getElem? (i := 276) (by decide +kernel), by decide +kernel⟩
theorem wd277 : (Jvm.Cond.superclass "java/lang/IllegalArgumentException" "java/lang/RuntimeException") ∈ wT := List.mem_filter.mpr ⟨List.mem_of_getElem? (i := 277) (by decide +kernel), by decide +kernel⟩
theorem wd278 : (Jvm.Cond.methodLink "RuleReader" (53 : Nat) ({ cls := "RuleReader$Bytes", name := "cut", desc := "(I)V" } : Jvm.MethodName)) ∈ wT := List.mem_filter.mpr ⟨List.mem_of_getElem? (i := 278) (by decide +kernel), by decide +kernel⟩
theorem wd279 : (Jvm.Cond.instanceMethod ({ cls := "RuleReader$Bytes", name := "cut", desc := "(I)V" } : Jvm.MethodName)) ∈ wT := List.mem_filter.mpr ⟨List.mem_of_getElem? (i := 279) (by decide +kernel), by decide +kernel⟩
theorem wd280 : (Jvm.Cond.selects "RuleReader$Bytes" ({ cls := "RuleReader$Bytes", name := "cut", desc := "(I)V" } : Jvm.MethodName) ({ cls := "RuleReader$Bytes", name := "cut", desc := "(I)V" } : Jvm.MethodName)) ∈ wT := List.mem_filter.mpr ⟨List.mem_of_getElem? (i := 280) (by decide +kernel), by decide +kernel⟩
theorem wd281 : (Jvm.Cond.code ({ cls := "RuleReader$Bytes", name := "cut", desc := "(I)V" } : Jvm.MethodName) prog_2_method_5_code (2 : Nat) (Option.none : Option Jvm.ClassFile.FieldType)) ∈ wT := List.mem_filter.mpr ⟨List.mem_of_getElem? (i := 281) (by decide +kernel), by decide +kernel⟩
theorem wd282 : (Jvm.Cond.methodLink "RuleReaderLaw" (72 : Nat) ({ cls := "RuleReaderLaw", name := "read", desc := "(LRuleReader;Z[J)I" } : Jvm.MethodName)) ∈ wT := List.mem_filter.mpr ⟨List.mem_of_getElem? (i := 282) (by decide +kernel), by decide +kernel⟩
theorem wd283 : (Jvm.Cond.static ({ cls := "RuleReaderLaw", name := "read", desc := "(LRuleReader;Z[J)I" } : Jvm.MethodName)) ∈ wT := List.mem_filter.mpr ⟨List.mem_of_getElem? (i := 283) (by decide +kernel), by decide +kernel⟩
theorem wd284 : (Jvm.Cond.codeWith ({ cls := "RuleReaderLaw", name := "read", desc := "(LRuleReader;Z[J)I" } : Jvm.MethodName) method_5_code (4 : Nat) (Option.some Jvm.ClassFile.FieldType.int) [((0 : Nat), (9 : Nat), (12 : Nat), (25 : Nat))]) ∈ wT := List.mem_filter.mpr ⟨List.mem_of_getElem? (i := 284) (by decide +kernel), by decide +kernel⟩
theorem wd285 : (Jvm.Cond.classLink "RuleReaderLaw" (25 : Nat) "java/lang/UnsupportedOperationException") ∈ wT := List.mem_filter.mpr ⟨List.mem_of_getElem? (i := 285) (by decide +kernel), by decide +kernel⟩
theorem wd286 : (Jvm.Cond.methodLink "RuleReaderLaw" (21 : Nat) ({ cls := "RuleReader", name := "read", desc := "(Z)I" } : Jvm.MethodName)) ∈ wT := List.mem_filter.mpr ⟨List.mem_of_getElem? (i := 286) (by decide +kernel), by decide +kernel⟩
theorem wd287 : (Jvm.Cond.instanceMethod ({ cls := "RuleReader", name := "read", desc := "(Z)I" } : Jvm.MethodName)) ∈ wT := List.mem_filter.mpr ⟨List.mem_of_getElem? (i := 287) (by decide +kernel), by decide +kernel⟩
theorem wd288 : (Jvm.Cond.selects "RuleReader" ({ cls := "RuleReader", name := "read", desc := "(Z)I" } : Jvm.MethodName) ({ cls := "RuleReader", name := "read", desc := "(Z)I" } : Jvm.MethodName)) ∈ wT := List.mem_filter.mpr ⟨List.mem_of_getElem? (i := 288) (by decide +kernel), by decide +kernel⟩
theorem wd289 : (Jvm.Cond.code ({ cls := "RuleReader", name := "read", desc := "(Z)I" } : Jvm.MethodName) prog_1_method_4_code (3 : Nat) (Option.some Jvm.ClassFile.FieldType.int)) ∈ wT := List.mem_filter.mpr ⟨List.mem_of_getElem? (i := 289) (by decide +kernel), by decide +kernel⟩
theorem wd290 : (Jvm.Cond.methodLink "RuleReader" (57 : Nat) ({ cls := "RuleReader$Nodes", name := "layOut", desc := "(LRuleReader$Bytes;Z)Z" } : Jvm.MethodName)) ∈ wT := List.mem_filter.mpr ⟨List.mem_of_getElem? (i := 290) (by decide +kernel), by decide +kernel⟩
theorem wd291 : (Jvm.Cond.instanceMethod ({ cls := "RuleReader$Nodes", name := "layOut", desc := "(LRuleReader$Bytes;Z)Z" } : Jvm.MethodName)) ∈ wT := List.mem_filter.mpr ⟨List.mem_of_getElem? (i := 291) (by decide +kernel), by decide +kernel⟩
theorem wd292 : (Jvm.Cond.selects "RuleReader$Nodes" ({ cls := "RuleReader$Nodes", name := "layOut", desc := "(LRuleReader$Bytes;Z)Z" } : Jvm.MethodName) ({ cls := "RuleReader$Nodes", name := "layOut", desc := "(LRuleReader$Bytes;Z)Z" } : Jvm.MethodName)) ∈ wT := List.mem_filter.mpr ⟨List.mem_of_getElem? (i := 292) (by decide +kernel), by decide +kernel⟩
theorem wd293 : (Jvm.Cond.code ({ cls := "RuleReader$Nodes", name := "layOut", desc := "(LRuleReader$Bytes;Z)Z" } : Jvm.MethodName) prog_4_method_5_code (4 : Nat) (Option.some Jvm.ClassFile.FieldType.boolean)) ∈ wT := List.mem_filter.mpr ⟨List.mem_of_getElem? (i := 293) (by decide +kernel), by decide +kernel⟩
theorem wd294 : (Jvm.Cond.methodLink "RuleReader$Nodes" (41 : Nat) ({ cls := "RuleReader$Bytes", name := "become", desc := "(LRuleReader$Bytes;)V" } : Jvm.MethodName)) ∈ wT := List.mem_filter.mpr ⟨List.mem_of_getElem? (i := 294) (by decide +kernel), by decide +kernel⟩
theorem wd295 : (Jvm.Cond.instanceMethod ({ cls := "RuleReader$Bytes", name := "become", desc := "(LRuleReader$Bytes;)V" } : Jvm.MethodName)) ∈ wT := List.mem_filter.mpr ⟨List.mem_of_getElem? (i := 295) (by decide +kernel), by decide +kernel⟩
theorem wd296 : (Jvm.Cond.selects "RuleReader$Bytes" ({ cls := "RuleReader$Bytes", name := "become", desc := "(LRuleReader$Bytes;)V" } : Jvm.MethodName) ({ cls := "RuleReader$Bytes", name := "become", desc := "(LRuleReader$Bytes;)V" } : Jvm.MethodName)) ∈ wT := List.mem_filter.mpr ⟨List.mem_of_getElem? (i := 296) (by decide +kernel), by decide +kernel⟩
theorem wd297 : (Jvm.Cond.code ({ cls := "RuleReader$Bytes", name := "become", desc := "(LRuleReader$Bytes;)V" } : Jvm.MethodName) prog_2_method_10_code (2 : Nat) (Option.none : Option Jvm.ClassFile.FieldType)) ∈ wT := List.mem_filter.mpr ⟨List.mem_of_getElem? (i := 297) (by decide +kernel), by decide +kernel⟩
theorem wd298 : (Jvm.Cond.methodLink "RuleReader$Bytes" (44 : Nat) ({ cls := "RuleReader$Bytes", name := "cut", desc := "(I)V" } : Jvm.MethodName)) ∈ wT := List.mem_filter.mpr ⟨List.mem_of_getElem? (i := 298) (by decide +kernel), by decide +kernel⟩
theorem wd299 : (Jvm.Cond.methodLink "RuleReader$Bytes" (47 : Nat) ({ cls := "RuleReader$Bytes", name := "putBehind", desc := "(LRuleReader$Bytes;)V" } : Jvm.MethodName)) ∈ wT := List.mem_filter.mpr ⟨List.mem_of_getElem? (i := 299) (by decide +kernel), by decide +kernel⟩
theorem wd300 : (Jvm.Cond.instanceMethod ({ cls := "RuleReader$Bytes", name := "putBehind", desc := "(LRuleReader$Bytes;)V" } : Jvm.MethodName)) ∈ wT := List.mem_filter.mpr ⟨List.mem_of_getElem? (i := 300) (by decide +kernel), by decide +kernel⟩
theorem wd301 : (Jvm.Cond.selects "RuleReader$Bytes" ({ cls := "RuleReader$Bytes", name := "putBehind", desc := "(LRuleReader$Bytes;)V" } : Jvm.MethodName) ({ cls := "RuleReader$Bytes", name := "putBehind", desc := "(LRuleReader$Bytes;)V" } : Jvm.MethodName)) ∈ wT := List.mem_filter.mpr ⟨List.mem_of_getElem? (i := 301) (by decide +kernel), by decide +kernel⟩
theorem wd302 : (Jvm.Cond.code ({ cls := "RuleReader$Bytes", name := "putBehind", desc := "(LRuleReader$Bytes;)V" } : Jvm.MethodName) prog_2_method_8_code (3 : Nat) (Option.none : Option Jvm.ClassFile.FieldType)) ∈ wT := List.mem_filter.mpr ⟨List.mem_of_getElem? (i := 302) (by decide +kernel), by decide +kernel⟩
theorem wd303 : (Jvm.Cond.methodLink "RuleReader$Bytes" (40 : Nat) ({ cls := "RuleReader$Bytes", name := "layOver", desc := "([BII)V" } : Jvm.MethodName)) ∈ wT := List.mem_filter.mpr ⟨List.mem_of_getElem? (i := 303) (by decide +kernel), by decide +kernel⟩
theorem wl304 : (Jvm.Cond.privateMethod ({ cls := "RuleReader$Bytes", name := "layOver", desc := "([BII)V" } : Jvm.MethodName)) ∈ lw_tbl := List.mem_of_getElem? (i := 304) (by decide +kernel)
theorem wd305 : (Jvm.Cond.instanceMethod ({ cls := "RuleReader$Bytes", name := "layOver", desc := "([BII)V" } : Jvm.MethodName)) ∈ wT := List.mem_filter.mpr ⟨List.mem_of_getElem? (i := 305) (by decide +kernel), by decide +kernel⟩
theorem wd306 : (Jvm.Cond.code ({ cls := "RuleReader$Bytes", name := "layOver", desc := "([BII)V" } : Jvm.MethodName) prog_2_method_11_code (4 : Nat) (Option.none : Option Jvm.ClassFile.FieldType)) ∈ wT := List.mem_filter.mpr ⟨List.mem_of_getElem? (i := 306) (by decide +kernel), by decide +kernel⟩
theorem wd307 : (Jvm.Cond.methodLink "RuleReader$Bytes" (51 : Nat) ({ cls := "java/lang/System", name := "arraycopy", desc := "(Ljava/lang/Object;ILjava/lang/Object;II)V" } : Jvm.MethodName)) ∈ wT := List.mem_filter.mpr ⟨List.mem_of_getElem? (i := 307) (by decide +kernel), by decide +kernel⟩
theorem wd308 : (Jvm.Cond.methodLink "RuleReader$Nodes" (45 : Nat) ({ cls := "RuleReader$Bytes", name := "size", desc := "()I" } : Jvm.MethodName)) ∈ wT := List.mem_filter.mpr ⟨List.mem_of_getElem? (i := 308) (by decide +kernel), by decide +kernel⟩
theorem wd309 : (Jvm.Cond.methodLink "RuleReader$Nodes" (49 : Nat) ({ cls := "RuleReader$Nodes", name := "layOutValue", desc := "(IIII)I" } : Jvm.MethodName)) ∈ wT := List.mem_filter.mpr ⟨List.mem_of_getElem? (i := 309) (by decide +kernel), by decide +kernel⟩
theorem wl310 : (Jvm.Cond.privateMethod ({ cls := "RuleReader$Nodes", name := "layOutValue", desc := "(IIII)I" } : Jvm.MethodName)) ∈ lw_tbl := List.mem_of_getElem? (i := 310) (by decide +kernel)
theorem wd311 : (Jvm.Cond.instanceMethod ({ cls := "RuleReader$Nodes", name := "layOutValue", desc := "(IIII)I" } : Jvm.MethodName)) ∈ wT := List.mem_filter.mpr ⟨List.mem_of_getElem? (i := 311) (by decide +kernel), by decide +kernel⟩
theorem wd312 : (Jvm.Cond.code ({ cls := "RuleReader$Nodes", name := "layOutValue", desc := "(IIII)I" } : Jvm.MethodName) prog_4_method_12_code (8 : Nat) (Option.some Jvm.ClassFile.FieldType.int)) ∈ wT := List.mem_filter.mpr ⟨List.mem_of_getElem? (i := 312) (by decide +kernel), by decide +kernel⟩
theorem wd313 : (Jvm.Cond.methodLink "RuleReader$Nodes" (82 : Nat) ({ cls := "RuleReader$Header", name := "decode", desc := "(LRuleReader$Bytes;IIZ)Z" } : Jvm.MethodName)) ∈ wT := List.mem_filter.mpr ⟨List.mem_of_getElem? (i := 313) (by decide +kernel), by decide +kernel⟩
theorem wd314 : (Jvm.Cond.instanceMethod ({ cls := "RuleReader$Header", name := "decode", desc := "(LRuleReader$Bytes;IIZ)Z" } : Jvm.MethodName)) ∈ wT := List.mem_filter.mpr ⟨List.mem_of_getElem? (i := 314) (by decide +kernel), by decide +kernel⟩
theorem wd315 : (Jvm.Cond.selects "RuleReader$Header" ({ cls := "RuleReader$Header", name := "decode", desc := "(LRuleReader$Bytes;IIZ)Z" } : Jvm.MethodName) ({ cls := "RuleReader$Header", name := "decode", desc := "(LRuleReader$Bytes;IIZ)Z" } : Jvm.MethodName)) ∈ wT := List.mem_filter.mpr ⟨List.mem_of_getElem? (i := 315) (by decide +kernel), by decide +kernel⟩
theorem wd316 : (Jvm.Cond.code ({ cls := "RuleReader$Header", name := "decode", desc := "(LRuleReader$Bytes;IIZ)Z" } : Jvm.MethodName) prog_3_method_2_code (7 : Nat) (Option.some Jvm.ClassFile.FieldType.boolean)) ∈ wT := List.mem_filter.mpr ⟨List.mem_of_getElem? (i := 316) (by decide +kernel), by decide +kernel⟩
theorem wd317 : (Jvm.Cond.methodLink "RuleReader$Header" (31 : Nat) ({ cls := "RuleReader$Header", name := "decodeIdentifier", desc := "(LRuleReader$Bytes;II)I" } : Jvm.MethodName)) ∈ wT := List.mem_filter.mpr ⟨List.mem_of_getElem? (i := 317) (by decide +kernel), by decide +kernel⟩
theorem wl318 : (Jvm.Cond.privateMethod ({ cls := "RuleReader$Header", name := "decodeIdentifier", desc := "(LRuleReader$Bytes;II)I" } : Jvm.MethodName)) ∈ lw_tbl := List.mem_of_getElem? (i := 318) (by decide +kernel)
theorem wd319 : (Jvm.Cond.instanceMethod ({ cls := "RuleReader$Header", name := "decodeIdentifier", desc := "(LRuleReader$Bytes;II)I" } : Jvm.MethodName)) ∈ wT := List.mem_filter.mpr ⟨List.mem_of_getElem? (i := 319) (by decide +kernel), by decide +kernel⟩
theorem wd320 : (Jvm.Cond.code ({ cls := "RuleReader$Header", name := "decodeIdentifier", desc := "(LRuleReader$Bytes;II)I" } : Jvm.MethodName) prog_3_method_3_code (5 : Nat) (Option.some Jvm.ClassFile.FieldType.int)) ∈ wT := List.mem_filter.mpr ⟨List.mem_of_getElem? (i := 320) (by decide +kernel), by decide +kernel⟩
theorem wd321 : (Jvm.Cond.methodLink "RuleReader$Header" (35 : Nat) ({ cls := "RuleReader$Bytes", name := "at", desc := "(I)I" } : Jvm.MethodName)) ∈ wT := List.mem_filter.mpr ⟨List.mem_of_getElem? (i := 321) (by decide +kernel), by decide +kernel⟩
theorem wd322 : (Jvm.Cond.instanceMethod ({ cls := "RuleReader$Bytes", name := "at", desc := "(I)I" } : Jvm.MethodName)) ∈ wT := List.mem_filter.mpr ⟨List.mem_of_getElem? (i := 322) (by decide +kernel), by decide +kernel⟩
theorem wd323 : (Jvm.Cond.selects "RuleReader$Bytes" ({ cls := "RuleReader$Bytes", name := "at", desc := "(I)I" } : Jvm.MethodName) ({ cls := "RuleReader$Bytes", name := "at", desc := "(I)I" } : Jvm.MethodName)) ∈ wT := List.mem_filter.mpr ⟨List.mem_of_getElem? (i := 323) (by decide +kernel), by decide +kernel⟩
theorem wd324 : (Jvm.Cond.code ({ cls := "RuleReader$Bytes", name := "at", desc := "(I)I" } : Jvm.MethodName) prog_2_method_4_code (2 : Nat) (Option.some Jvm.ClassFile.FieldType.int)) ∈ wT := List.mem_filter.mpr ⟨List.mem_of_getElem? (i := 324) (by decide +kernel), by decide +kernel⟩
theorem wd325 : (Jvm.Cond.methodLink "RuleReader$Header" (45 : Nat) ({ cls := "RuleReader$Header", name := "decodeLongNumber", desc := "(LRuleReader$Bytes;II)I" } : Jvm.MethodName)) ∈ wT := List.mem_filter.mpr ⟨List.mem_of_getElem? (i := 325) (by decide +kernel), by decide +kernel⟩
theorem wl326 : (Jvm.Cond.privateMethod ({ cls := "RuleReader$Header", name := "decodeLongNumber", desc := "(LRuleReader$Bytes;II)I" } : Jvm.MethodName)) ∈ lw_tbl := List.mem_of_getElem? (i := 326) (by decide +kernel)
theorem wd327 : (Jvm.Cond.instanceMethod ({ cls := "RuleReader$Header", name := "decodeLongNumber", desc := "(LRuleReader$Bytes;II)I" } : Jvm.MethodName)) ∈ wT := List.mem_filter.mpr ⟨List.mem_of_getElem? (i := 327) (by decide +kernel), by decide +kernel⟩
theorem wd328 : (Jvm.Cond.code ({ cls := "RuleReader$Header", name := "decodeLongNumber", desc := "(LRuleReader$Bytes;II)I" } : Jvm.MethodName) prog_3_method_4_code (8 : Nat) (Option.some Jvm.ClassFile.FieldType.int)) ∈ wT := List.mem_filter.mpr ⟨List.mem_of_getElem? (i := 328) (by decide +kernel), by decide +kernel⟩
theorem wd329 : (Jvm.Cond.constantLong "RuleReader$Header" (48 : Nat) (2147483647 : Int64)) ∈ wT := List.mem_filter.mpr ⟨List.mem_of_getElem? (i := 329) (by decide +kernel), by decide +kernel⟩
theorem wd330 : (Jvm.Cond.constantLong "RuleReader$Header" (50 : Nat) (128 : Int64)) ∈ wT := List.mem_filter.mpr ⟨List.mem_of_getElem? (i := 330) (by decide +kernel), by decide +kernel⟩
theorem wd331 : (Jvm.Cond.constantLong "RuleReader$Header" (52 : Nat) (31 : Int64)) ∈ wT := List.mem_filter.mpr ⟨List.mem_of_getElem? (i := 331) (by decide +kernel), by decide +kernel⟩
theorem wd332 : (Jvm.Cond.methodLink "RuleReader$Header" (41 : Nat) ({ cls := "RuleReader$Header", name := "decodeLongLength", desc := "(LRuleReader$Bytes;IIZ)Z" } : Jvm.MethodName)) ∈ wT := List.mem_filter.mpr ⟨List.mem_of_getElem? (i := 332) (by decide +kernel), by decide +kernel⟩
theorem wl333 : (Jvm.Cond.privateMethod ({ cls := "RuleReader$Header", name := "decodeLongLength", desc := "(LRuleReader$Bytes;IIZ)Z" } : Jvm.MethodName)) ∈ lw_tbl := List.mem_of_getElem? (i := 333) (by decide +kernel)
theorem wd334 : (Jvm.Cond.instanceMethod ({ cls := "RuleReader$Header", name := "decodeLongLength", desc := "(LRuleReader$Bytes;IIZ)Z" } : Jvm.MethodName)) ∈ wT := List.mem_filter.mpr ⟨List.mem_of_getElem? (i := 334) (by decide +kernel), by decide +kernel⟩
theorem wd335 : (Jvm.Cond.code ({ cls := "RuleReader$Header", name := "decodeLongLength", desc := "(LRuleReader$Bytes;IIZ)Z" } : Jvm.MethodName) prog_3_method_5_code (7 : Nat) (Option.some Jvm.ClassFile.FieldType.boolean)) ∈ wT := List.mem_filter.mpr ⟨List.mem_of_getElem? (i := 335) (by decide +kernel), by decide +kernel⟩
theorem wd336 : (Jvm.Cond.methodLink "RuleReader$Nodes" (86 : Nat) ({ cls := "RuleReader$Nodes", name := "enter", desc := "(II)I" } : Jvm.MethodName)) ∈ wT := List.mem_filter.mpr ⟨List.mem_of_getElem? (i := 336) (by decide +kernel), by decide +kernel⟩
theorem wl337 : (Jvm.Cond.privateMethod ({ cls := "RuleReader$Nodes", name := "enter", desc := "(II)I" } : Jvm.MethodName)) ∈ lw_tbl := List.mem_of_getElem? (i := 337) (by decide +kernel)
theorem wd338 : (Jvm.Cond.instanceMethod ({ cls := "RuleReader$Nodes", name := "enter", desc := "(II)I" } : Jvm.MethodName)) ∈ wT := List.mem_filter.mpr ⟨List.mem_of_getElem? (i := 338) (by decide +kernel), by decide +kernel⟩
theorem wd339 : (Jvm.Cond.code ({ cls := "RuleReader$Nodes", name := "enter", desc := "(II)I" } : Jvm.MethodName) prog_4_method_15_code (4 : Nat) (Option.some Jvm.ClassFile.FieldType.int)) ∈ wT := List.mem_filter.mpr ⟨List.mem_of_getElem? (i := 339) (by decide +kernel), by decide +kernel⟩
theorem wd340 : (Jvm.Cond.methodLink "RuleReader$Nodes" (61 : Nat) ({ cls := "java/lang/Math", name := "min", desc := "(II)I" } : Jvm.MethodName)) ∈ wT := List.mem_filter.mpr ⟨List.mem_of_getElem? (i := 340) (by decide +kernel), by decide +kernel⟩
theorem wd341 : (Jvm.Cond.methodLink "RuleReader$Nodes" (111 : Nat) ({ cls := "java/util/Arrays", name := "copyOf", desc := "([II)[I" } : Jvm.MethodName)) ∈ wT := List.mem_filter.mpr ⟨List.mem_of_getElem? (i := 341) (by decide +kernel), by decide +kernel⟩
theorem wd342 : (Jvm.Cond.static ({ cls := "java/util/Arrays", name := "copyOf", desc := "([II)[I" } : Jvm.MethodName)) ∈ wT := List.mem_filter.mpr ⟨List.mem_of_getElem? (i := 342) (by decide +kernel), by decide +kernel⟩
theorem wd343 : (Jvm.Cond.code ({ cls := "java/util/Arrays", name := "copyOf", desc := "([II)[I" } : Jvm.MethodName) prog_19_method_123_code (3 : Nat) (Option.some (Jvm.ClassFile.FieldType.array Jvm.ClassFile.FieldType.int))) ∈ wT := List.mem_filter.mpr ⟨List.mem_of_getElem? (i := 343) (by decide +kernel), by decide +kernel⟩
theorem wd344 : (Jvm.Cond.methodLink "java/util/Arrays" (316 : Nat) ({ cls := "[I", name := "clone", desc := "()Ljava/lang/Object;" } : Jvm.MethodName)) ∈ wT := List.mem_filter.mpr ⟨List.mem_of_getElem? (i := 344) (by decide +kernel), by decide +kernel⟩
theorem wd345 : (Jvm.Cond.sameMethod "[I" "java/lang/Object" "clone" "()Ljava/lang/Object;") ∈ wT := List.mem_filter.mpr ⟨List.mem_of_getElem? (i := 345) (by decide +kernel), by decide +kernel⟩
theorem wd346 : (Jvm.Cond.selects "[I" ({ cls := "[I", name := "clone", desc := "()Ljava/lang/Object;" } : Jvm.MethodName) ({ cls := "java/lang/Object", name := "clone", desc := "()Ljava/lang/Object;" } : Jvm.MethodName)) ∈ wT := List.mem_filter.mpr ⟨List.mem_of_getElem? (i := 346) (by decide +kernel), by decide +kernel⟩
theorem wl347 : (Jvm.Cond.castable "[I" "java/lang/Cloneable") ∈ lw_tbl := List.mem_of_getElem? (i := 347) (by decide +kernel)
theorem wd348 : (Jvm.Cond.classLink "java/util/Arrays" (317 : Nat) "[I") ∈ wT := List.mem_filter.mpr ⟨List.mem_of_getElem? (i := 348) (by decide +kernel), by decide +kernel⟩
theorem wd349 : (Jvm.Cond.methodLink "RuleReader$Nodes" (98 : Nat) ({ cls := "RuleReader$Nodes", name := "put", desc := "(III)V" } : Jvm.MethodName)) ∈ wT := List.mem_filter.mpr ⟨List.mem_of_getElem? (i := 349) (by decide +kernel), by decide +kernel⟩
theorem wl350 : (Jvm.Cond.privateMethod ({ cls := "RuleReader$Nodes", name := "put", desc := "(III)V" } : Jvm.MethodName)) ∈ lw_tbl := List.mem_of_getElem? (i := 350) (by decide +kernel)
theorem wd351 : (Jvm.Cond.instanceMethod ({ cls := "RuleReader$Nodes", name := "put", desc := "(III)V" } : Jvm.MethodName)) ∈ wT := List.mem_filter.mpr ⟨List.mem_of_getElem? (i := 351) (by decide +kernel), by decide +kernel⟩
theorem wd352 : (Jvm.Cond.code ({ cls := "RuleReader$Nodes", name := "put", desc := "(III)V" } : Jvm.MethodName) prog_4_method_11_code (5 : Nat) (Option.none : Option Jvm.ClassFile.FieldType)) ∈ wT := List.mem_filter.mpr ⟨List.mem_of_getElem? (i := 352) (by decide +kernel), by decide +kernel⟩
theorem wd353 : (Jvm.Cond.methodLink "RuleReader$Nodes" (37 : Nat) ({ cls := "RuleReader$Nodes", name := "indexOf", desc := "(II)I" } : Jvm.MethodName)) ∈ wT := List.mem_filter.mpr ⟨List.mem_of_getElem? (i := 353) (by decide +kernel), by decide +kernel⟩
theorem wl354 : (Jvm.Cond.privateMethod ({ cls := "RuleReader$Nodes", name := "indexOf", desc := "(II)I" } : Jvm.MethodName)) ∈ lw_tbl := List.mem_of_getElem? (i := 354) (by decide +kernel)
theorem wd355 : (Jvm.Cond.instanceMethod ({ cls := "RuleReader$Nodes", name := "indexOf", desc := "(II)I" } : Jvm.MethodName)) ∈ wT := List.mem_filter.mpr ⟨List.mem_of_getElem? (i := 355) (by decide +kernel), by decide +kernel⟩
theorem wd356 : (Jvm.Cond.code ({ cls := "RuleReader$Nodes", name := "indexOf", desc := "(II)I" } : Jvm.MethodName) prog_4_method_10_code (3 : Nat) (Option.some Jvm.ClassFile.FieldType.int)) ∈ wT := List.mem_filter.mpr ⟨List.mem_of_getElem? (i := 356) (by decide +kernel), by decide +kernel⟩
theorem wd357 : (Jvm.Cond.methodLink "RuleReader$Nodes" (78 : Nat) ({ cls := "RuleReader$Nodes", name := "has", desc := "(I)Z" } : Jvm.MethodName)) ∈ wT := List.mem_filter.mpr ⟨List.mem_of_getElem? (i := 357) (by decide +kernel), by decide +kernel⟩
theorem wd358 : (Jvm.Cond.instanceMethod ({ cls := "RuleReader$Nodes", name := "has", desc := "(I)Z" } : Jvm.MethodName)) ∈ wT := List.mem_filter.mpr ⟨List.mem_of_getElem? (i := 358) (by decide +kernel), by decide +kernel⟩
theorem wd359 : (Jvm.Cond.selects "RuleReader$Nodes" ({ cls := "RuleReader$Nodes", name := "has", desc := "(I)Z" } : Jvm.MethodName) ({ cls := "RuleReader$Nodes", name := "has", desc := "(I)Z" } : Jvm.MethodName)) ∈ wT := List.mem_filter.mpr ⟨List.mem_of_getElem? (i := 359) (by decide +kernel), by decide +kernel⟩
theorem wd360 : (Jvm.Cond.code ({ cls := "RuleReader$Nodes", name := "has", desc := "(I)Z" } : Jvm.MethodName) prog_4_method_3_code (2 : Nat) (Option.some Jvm.ClassFile.FieldType.boolean)) ∈ wT := List.mem_filter.mpr ⟨List.mem_of_getElem? (i := 360) (by decide +kernel), by decide +kernel⟩
theorem wd361 : (Jvm.Cond.methodLink "RuleReader$Nodes" (53 : Nat) ({ cls := "RuleReader$Nodes", name := "get", desc := "(II)I" } : Jvm.MethodName)) ∈ wT := List.mem_filter.mpr ⟨List.mem_of_getElem? (i := 361) (by decide +kernel), by decide +kernel⟩
theorem wd362 : (Jvm.Cond.instanceMethod ({ cls := "RuleReader$Nodes", name := "get", desc := "(II)I" } : Jvm.MethodName)) ∈ wT := List.mem_filter.mpr ⟨List.mem_of_getElem? (i := 362) (by decide +kernel), by decide +kernel⟩
theorem wd363 : (Jvm.Cond.selects "RuleReader$Nodes" ({ cls := "RuleReader$Nodes", name := "get", desc := "(II)I" } : Jvm.MethodName) ({ cls := "RuleReader$Nodes", name := "get", desc := "(II)I" } : Jvm.MethodName)) ∈ wT := List.mem_filter.mpr ⟨List.mem_of_getElem? (i := 363) (by decide +kernel), by decide +kernel⟩
theorem wd364 : (Jvm.Cond.code ({ cls := "RuleReader$Nodes", name := "get", desc := "(II)I" } : Jvm.MethodName) prog_4_method_4_code (4 : Nat) (Option.some Jvm.ClassFile.FieldType.int)) ∈ wT := List.mem_filter.mpr ⟨List.mem_of_getElem? (i := 364) (by decide +kernel), by decide +kernel⟩
theorem wd365 : (Jvm.Cond.methodLink "RuleReader$Nodes" (95 : Nat) ({ cls := "RuleReader$Nodes", name := "layOutUpToZeros", desc := "(IIII)I" } : Jvm.MethodName)) ∈ wT := List.mem_filter.mpr ⟨List.mem_of_getElem? (i := 365) (by decide +kernel), by decide +kernel⟩
theorem wl366 : (Jvm.Cond.privateMethod ({ cls := "RuleReader$Nodes", name := "layOutUpToZeros", desc := "(IIII)I" } : Jvm.MethodName)) ∈ lw_tbl := List.mem_of_getElem? (i := 366) (by decide +kernel)
theorem wd367 : (Jvm.Cond.instanceMethod ({ cls := "RuleReader$Nodes", name := "layOutUpToZeros", desc := "(IIII)I" } : Jvm.MethodName)) ∈ wT := List.mem_filter.mpr ⟨List.mem_of_getElem? (i := 367) (by decide +kernel), by decide +kernel⟩
theorem wd368 : (Jvm.Cond.code ({ cls := "RuleReader$Nodes", name := "layOutUpToZeros", desc := "(IIII)I" } : Jvm.MethodName) prog_4_method_14_code (7 : Nat) (Option.some Jvm.ClassFile.FieldType.int)) ∈ wT := List.mem_filter.mpr ⟨List.mem_of_getElem? (i := 368) (by decide +kernel), by decide +kernel⟩
theorem wd369 : (Jvm.Cond.methodLink "RuleReader$Nodes" (74 : Nat) ({ cls := "RuleReader$Bytes", name := "at", desc := "(I)I" } : Jvm.MethodName)) ∈ wT := List.mem_filter.mpr ⟨List.mem_of_getElem? (i := 369) (by decide +kernel), by decide +kernel⟩
theorem wd370 : (Jvm.Cond.methodLink "RuleReader$Nodes" (107 : Nat) ({ cls := "RuleReader$Nodes", name := "layOutUpTo", desc := "(IIII)Z" } : Jvm.MethodName)) ∈ wT := List.mem_filter.mpr ⟨List.mem_of_getElem? (i := 370) (by decide +kernel), by decide +kernel⟩
theorem wl371 : (Jvm.Cond.privateMethod ({ cls := "RuleReader$Nodes", name := "layOutUpTo", desc := "(IIII)Z" } : Jvm.MethodName)) ∈ lw_tbl := List.mem_of_getElem? (i := 371) (by decide +kernel)
theorem wd372 : (Jvm.Cond.instanceMethod ({ cls := "RuleReader$Nodes", name := "layOutUpTo", desc := "(IIII)Z" } : Jvm.MethodName)) ∈ wT := List.mem_filter.mpr ⟨List.mem_of_getElem? (i := 372) (by decide +kernel), by decide +kernel⟩
theorem wd373 : (Jvm.Cond.code ({ cls := "RuleReader$Nodes", name := "layOutUpTo", desc := "(IIII)Z" } : Jvm.MethodName) prog_4_method_13_code (7 : Nat) (Option.some Jvm.ClassFile.FieldType.boolean)) ∈ wT := List.mem_filter.mpr ⟨List.mem_of_getElem? (i := 373) (by decide +kernel), by decide +kernel⟩
theorem wd374 : (Jvm.Cond.classLink "RuleReader" (61 : Nat) "java/lang/UnsupportedOperationException") ∈ wT := List.mem_filter.mpr ⟨List.mem_of_getElem? (i := 374) (by decide +kernel), by decide +kernel⟩
theorem wd375 : (Jvm.Cond.instantiable "java/lang/UnsupportedOperationException" (6 : Nat)) ∈ wT := List.mem_filter.mpr ⟨List.mem_of_getElem? (i := 375) (by decide +kernel), by decide +kernel⟩
theorem wl376 : (Jvm.Cond.castable "java/lang/UnsupportedOperationException" "java/lang/UnsupportedOperationException") ∈ lw_tbl := List.mem_of_getElem? (i := 376) (by decide +kernel)
theorem wd377 : (Jvm.Cond.selects "java/lang/UnsupportedOperationException" ({ cls := "java/lang/Throwable", name := "fillInStackTrace", desc := "(I)Ljava/lang/Throwable;" } : Jvm.MethodName) ({ cls := "java/lang/Throwable", name := "fillInStackTrace", desc := "(I)Ljava/lang/Throwable;" } : Jvm.MethodName)) ∈ wT := List.mem_filter.mpr ⟨List.mem_of_getElem? (i := 377) (by decide +kernel), by decide +kernel⟩
theorem wd378 : (Jvm.Cond.lays "java/lang/UnsupportedOperationException" "java/lang/Throwable" "cause" "Ljava/lang/Throwable;") ∈ wT := List.mem_filter.mpr ⟨List.mem_of_getElem? (i := 378) (by decide +kernel), by decide +kernel⟩
theorem wd379 : (Jvm.Cond.lays "java/lang/UnsupportedOperationException" "java/lang/Throwable" "stackTrace" "[Ljava/lang/StackTraceElement;") ∈ wT := List.mem_filter.mpr ⟨List.mem_of_getElem? (i := 379) (by decide +kernel), by decide +kernel⟩
theorem wd380 : (Jvm.Cond.lays "java/lang/UnsupportedOperationException" "java/lang/Throwable" "suppressedExceptions" "Ljava/util/List;") ∈ wT := List.mem_filter.mpr ⟨List.mem_of_getElem? (i := 380) (by decide +kernel), by decide +kernel⟩
theorem wd381 : (Jvm.Cond.lays "java/lang/UnsupportedOperationException" "java/lang/Throwable" "detailMessage" "Ljava/lang/String;") ∈ wT := List.mem_filter.mpr ⟨List.mem_of_getElem? (i := 381) (by decide +kernel), by decide +kernel⟩
theorem wd382 : (Jvm.Cond.lays "java/lang/UnsupportedOperationException" "java/lang/Throwable" "backtrace" "Ljava/lang/Object;") ∈ wT := List.mem_filter.mpr ⟨List.mem_of_getElem? (i := 382) (by decide +kernel), by decide +kernel⟩
theorem wl383 : (Jvm.Cond.stringRef "RuleReader" (63 : Nat) "the tape is not just one value") ∈ lw_tbl := List.mem_of_getElem? (i := 383) (by decide +kernel)
theorem wd384 : (Jvm.Cond.methodLink "RuleReader" (65 : Nat) ({ cls := "java/lang/UnsupportedOperationException", name := "<init>", desc := "(Ljava/lang/String;)V" } : Jvm.MethodName)) ∈ wT := List.mem_filter.mpr ⟨List.mem_of_getElem? (i := 384) (by decide +kernel), by decide +kernel⟩
theorem wd385 : (Jvm.Cond.instanceMethod ({ cls := "java/lang/UnsupportedOperationException", name := "<init>", desc := "(Ljava/lang/String;)V" } : Jvm.MethodName)) ∈ wT := List.mem_filter.mpr ⟨List.mem_of_getElem? (i := 385) (by decide +kernel), by decide +kernel⟩
theorem wd386 : (Jvm.Cond.code ({ cls := "java/lang/UnsupportedOperationException", name := "<init>", desc := "(Ljava/lang/String;)V" } : Jvm.MethodName) prog_18_method_2_code (2 : Nat) (Option.none : Option Jvm.ClassFile.FieldType)) ∈ wT := List.mem_filter.mpr ⟨List.mem_of_getElem? (i := 386) (by decide +kernel), by decide +kernel⟩
theorem wd387 : (Jvm.Cond.methodLink "java/lang/UnsupportedOperationException" (7 : Nat) ({ cls := "java/lang/RuntimeException", name := "<init>", desc := "(Ljava/lang/String;)V" } : Jvm.MethodName)) ∈ wT := List.mem_filter.mpr ⟨List.mem_of_getElem? (i := 387) (by decide +kernel), by decide +kernel⟩
theorem wd388 : (Jvm.Cond.lays "java/lang/UnsupportedOperationException" "java/lang/Throwable" "depth" "I") ∈ wT := List.mem_filter.mpr ⟨List.mem_of_getElem? (i := 388) (by decide +kernel), by decide +kernel⟩
theorem wd389 : (Jvm.Cond.superclass "java/lang/UnsupportedOperationException" "java/lang/RuntimeException") ∈ wT := List.mem_filter.mpr ⟨List.mem_of_getElem? (i := 389) (by decide +kernel), by decide +kernel⟩
theorem wd390 : (Jvm.Cond.methodLink "RuleReader" (66 : Nat) ({ cls := "RuleReader$Nodes", name := "size", desc := "()I" } : Jvm.MethodName)) ∈ wT := List.mem_filter.mpr ⟨List.mem_of_getElem? (i := 390) (by decide +kernel), by decide +kernel⟩
theorem wd391 : (Jvm.Cond.instanceMethod ({ cls := "RuleReader$Nodes", name := "size", desc := "()I" } : Jvm.MethodName)) ∈ wT := List.mem_filter.mpr ⟨List.mem_of_getElem? (i := 391) (by decide +kernel), by decide +kernel⟩
theorem wd392 : (Jvm.Cond.selects "RuleReader$Nodes" ({ cls := "RuleReader$Nodes", name := "size", desc := "()I" } : Jvm.MethodName) ({ cls := "RuleReader$Nodes", name := "size", desc := "()I" } : Jvm.MethodName)) ∈ wT := List.mem_filter.mpr ⟨List.mem_of_getElem? (i := 392) (by decide +kernel), by decide +kernel⟩
theorem wd393 : (Jvm.Cond.code ({ cls := "RuleReader$Nodes", name := "size", desc := "()I" } : Jvm.MethodName) prog_4_method_2_code (1 : Nat) (Option.some Jvm.ClassFile.FieldType.int)) ∈ wT := List.mem_filter.mpr ⟨List.mem_of_getElem? (i := 393) (by decide +kernel), by decide +kernel⟩
theorem wd394 : (Jvm.Cond.methodLink "RuleReaderLaw" (76 : Nat) ({ cls := "RuleReaderLaw", name := "node", desc := "(LRuleReader;II[J)I" } : Jvm.MethodName)) ∈ wT := List.mem_filter.mpr ⟨List.mem_of_getElem? (i := 394) (by decide +kernel), by decide +kernel⟩
theorem wd395 : (Jvm.Cond.static ({ cls := "RuleReaderLaw", name := "node", desc := "(LRuleReader;II[J)I" } : Jvm.MethodName)) ∈ wT := List.mem_filter.mpr ⟨List.mem_of_getElem? (i := 395) (by decide +kernel), by decide +kernel⟩
theorem wd396 : (Jvm.Cond.codeWith ({ cls := "RuleReaderLaw", name := "node", desc := "(LRuleReader;II[J)I" } : Jvm.MethodName) method_6_code (5 : Nat) (Option.some Jvm.ClassFile.FieldType.int) [((0 : Nat), (10 : Nat), (13 : Nat), (19 : Nat))]) ∈ wT := List.mem_filter.mpr ⟨List.mem_of_getElem? (i := 396) (by decide +kernel), by decide +kernel⟩
theorem wd397 : (Jvm.Cond.methodLink "RuleReaderLaw" (27 : Nat) ({ cls := "RuleReader", name := "node", desc := "(II)I" } : Jvm.MethodName)) ∈ wT := List.mem_filter.mpr ⟨List.mem_of_getElem? (i := 397) (by decide +kernel), by decide +kernel⟩
theorem wd398 : (Jvm.Cond.instanceMethod ({ cls := "RuleReader", name := "node", desc := "(II)I" } : Jvm.MethodName)) ∈ wT := List.mem_filter.mpr ⟨List.mem_of_getElem? (i := 398) (by decide +kernel), by decide +kernel⟩
theorem wd399 : (Jvm.Cond.selects "RuleReader" ({ cls := "RuleReader", name := "node", desc := "(II)I" } : Jvm.MethodName) ({ cls := "RuleReader", name := "node", desc := "(II)I" } : Jvm.MethodName)) ∈ wT := List.mem_filter.mpr ⟨List.mem_of_getElem? (i := 399) (by decide +kernel), by decide +kernel⟩
theorem wd400 : (Jvm.Cond.code ({ cls := "RuleReader", name := "node", desc := "(II)I" } : Jvm.MethodName) prog_1_method_5_code (3 : Nat) (Option.some Jvm.ClassFile.FieldType.int)) ∈ wT := List.mem_filter.mpr ⟨List.mem_of_getElem? (i := 400) (by decide +kernel), by decide +kernel⟩
theorem wd401 : (Jvm.Cond.methodLink "RuleReader" (67 : Nat) ({ cls := "RuleReader$Nodes", name := "has", desc := "(I)Z" } : Jvm.MethodName)) ∈ wT := List.mem_filter.mpr ⟨List.mem_of_getElem? (i := 401) (by decide +kernel), by decide +kernel⟩
theorem wl402 : (Jvm.Cond.stringRef "RuleReader" (70 : Nat) "there is no such node") ∈ lw_tbl := List.mem_of_getElem? (i := 402) (by decide +kernel)
theorem wl403 : (Jvm.Cond.stringRef "RuleReader" (72 : Nat) "what is 0 to 7") ∈ lw_tbl := List.mem_of_getElem? (i := 403) (by decide +kernel)
theorem wd404 : (Jvm.Cond.methodLink "RuleReader" (74 : Nat) ({ cls := "RuleReader$Nodes", name := "get", desc := "(II)I" } : Jvm.MethodName)) ∈ wT := List.mem_filter.mpr ⟨List.mem_of_getElem? (i := 404) (by decide +kernel), by decide +kernel⟩
theorem wd405 : (Jvm.Cond.methodLink "RuleReaderLaw" (80 : Nat) ({ cls := "RuleReaderLaw", name := "number", desc := "(LRuleReader;I[J)I" } : Jvm.MethodName)) ∈ wT := List.mem_filter.mpr ⟨List.mem_of_getElem? (i := 405) (by decide +kernel), by decide +kernel⟩
theorem wd406 : (Jvm.Cond.static ({ cls := "RuleReaderLaw", name := "number", desc := "(LRuleReader;I[J)I" } : Jvm.MethodName)) ∈ wT := List.mem_filter.mpr ⟨List.mem_of_getElem? (i := 406) (by decide +kernel), by decide +kernel⟩
theorem wd407 : (Jvm.Cond.codeWith ({ cls := "RuleReaderLaw", name := "number", desc := "(LRuleReader;I[J)I" } : Jvm.MethodName) method_7_code (4 : Nat) (Option.some Jvm.ClassFile.FieldType.int) [((0 : Nat), (8 : Nat), (11 : Nat), (19 : Nat)), ((0 : Nat), (8 : Nat), (14 : Nat), (25 : Nat)), ((0 : Nat), (8 : Nat), (17 : Nat), (35 : Nat))]) ∈ wT := List.mem_filter.mpr ⟨List.mem_of_getElem? (i := 407) (by decide +kernel), by decide +kernel⟩
theorem wd408 : (Jvm.Cond.classLink "RuleReaderLaw" (35 : Nat) "java/lang/ArithmeticException") ∈ wT := List.mem_filter.mpr ⟨List.mem_of_getElem? (i := 408) (by decide +kernel), by decide +kernel⟩
theorem wd409 : (Jvm.Cond.methodLink "RuleReaderLaw" (31 : Nat) ({ cls := "RuleReader", name := "number", desc := "(I)J" } : Jvm.MethodName)) ∈ wT := List.mem_filter.mpr ⟨List.mem_of_getElem? (i := 409) (by decide +kernel), by decide +kernel⟩
theorem wd410 : (Jvm.Cond.instanceMethod ({ cls := "RuleReader", name := "number", desc := "(I)J" } : Jvm.MethodName)) ∈ wT := List.mem_filter.mpr ⟨List.mem_of_getElem? (i := 410) (by decide +kernel), by decide +kernel⟩
theorem wd411 : (Jvm.Cond.selects "RuleReader" ({ cls := "RuleReader", name := "number", desc := "(I)J" } : Jvm.MethodName) ({ cls := "RuleReader", name := "number", desc := "(I)J" } : Jvm.MethodName)) ∈ wT := List.mem_filter.mpr ⟨List.mem_of_getElem? (i := 411) (by decide +kernel), by decide +kernel⟩
theorem wd412 : (Jvm.Cond.code ({ cls := "RuleReader", name := "number", desc := "(I)J" } : Jvm.MethodName) prog_1_method_6_code (2 : Nat) (Option.some Jvm.ClassFile.FieldType.long)) ∈ wT := List.mem_filter.mpr ⟨List.mem_of_getElem? (i := 412) (by decide +kernel), by decide +kernel⟩
theorem wl413 : (Jvm.Cond.stringRef "RuleReader" (78 : Nat) "the node is constructed") ∈ lw_tbl := List.mem_of_getElem? (i := 413) (by decide +kernel)
theorem wd414 : (Jvm.Cond.methodLink "RuleReader" (80 : Nat) ({ cls := "RuleReader$Nodes", name := "holdsNumber", desc := "(I)Z" } : Jvm.MethodName)) ∈ wT := List.mem_filter.mpr ⟨List.mem_of_getElem? (i := 414) (by decide +kernel), by decide +kernel⟩
theorem wd415 : (Jvm.Cond.instanceMethod ({ cls := "RuleReader$Nodes", name := "holdsNumber", desc := "(I)Z" } : Jvm.MethodName)) ∈ wT := List.mem_filter.mpr ⟨List.mem_of_getElem? (i := 415) (by decide +kernel), by decide +kernel⟩
theorem wd416 : (Jvm.Cond.selects "RuleReader$Nodes" ({ cls := "RuleReader$Nodes", name := "holdsNumber", desc := "(I)Z" } : Jvm.MethodName) ({ cls := "RuleReader$Nodes", name := "holdsNumber", desc := "(I)Z" } : Jvm.MethodName)) ∈ wT := List.mem_filter.mpr ⟨List.mem_of_getElem? (i := 416) (by decide +kernel), by decide +kernel⟩
theorem wd417 : (Jvm.Cond.code ({ cls := "RuleReader$Nodes", name := "holdsNumber", desc := "(I)Z" } : Jvm.MethodName) prog_4_method_6_code (4 : Nat) (Option.some Jvm.ClassFile.FieldType.boolean)) ∈ wT := List.mem_filter.mpr ⟨List.mem_of_getElem? (i := 417) (by decide +kernel), by decide +kernel⟩
theorem wd418 : (Jvm.Cond.methodLink "RuleReader$Nodes" (56 : Nat) ({ cls := "RuleReader$Nodes", name := "contentsAt", desc := "(II)I" } : Jvm.MethodName)) ∈ wT := List.mem_filter.mpr ⟨List.mem_of_getElem? (i := 418) (by decide +kernel), by decide +kernel⟩
theorem wl419 : (Jvm.Cond.privateMethod ({ cls := "RuleReader$Nodes", name := "contentsAt", desc := "(II)I" } : Jvm.MethodName)) ∈ lw_tbl := List.mem_of_getElem? (i := 419) (by decide +kernel)
theorem wd420 : (Jvm.Cond.instanceMethod ({ cls := "RuleReader$Nodes", name := "contentsAt", desc := "(II)I" } : Jvm.MethodName)) ∈ wT := List.mem_filter.mpr ⟨List.mem_of_getElem? (i := 420) (by decide +kernel), by decide +kernel⟩
theorem wd421 : (Jvm.Cond.code ({ cls := "RuleReader$Nodes", name := "contentsAt", desc := "(II)I" } : Jvm.MethodName) prog_4_method_9_code (3 : Nat) (Option.some Jvm.ClassFile.FieldType.int)) ∈ wT := List.mem_filter.mpr ⟨List.mem_of_getElem? (i := 421) (by decide +kernel), by decide +kernel⟩
theorem wd422 : (Jvm.Cond.classLink "RuleReader" (83 : Nat) "java/lang/ArithmeticException") ∈ wT := List.mem_filter.mpr ⟨List.mem_of_getElem? (i := 422) (by decide +kernel), by decide +kernel⟩
theorem wd423 : (Jvm.Cond.instantiable "java/lang/ArithmeticException" (6 : Nat)) ∈ wT := List.mem_filter.mpr ⟨List.mem_of_getElem? (i := 423) (by decide +kernel), by decide +kernel⟩
theorem wl424 : (Jvm.Cond.castable "java/lang/ArithmeticException" "java/lang/ArithmeticException") ∈ lw_tbl := List.mem_of_getElem? (i := 424) (by decide +kernel)
theorem wd425 : (Jvm.Cond.selects "java/lang/ArithmeticException" ({ cls := "java/lang/Throwable", name := "fillInStackTrace", desc := "(I)Ljava/lang/Throwable;" } : Jvm.MethodName) ({ cls := "java/lang/Throwable", name := "fillInStackTrace", desc := "(I)Ljava/lang/Throwable;" } : Jvm.MethodName)) ∈ wT := List.mem_filter.mpr ⟨List.mem_of_getElem? (i := 425) (by decide +kernel), by decide +kernel⟩
theorem wd426 : (Jvm.Cond.lays "java/lang/ArithmeticException" "java/lang/Throwable" "cause" "Ljava/lang/Throwable;") ∈ wT := List.mem_filter.mpr ⟨List.mem_of_getElem? (i := 426) (by decide +kernel), by decide +kernel⟩
theorem wd427 : (Jvm.Cond.lays "java/lang/ArithmeticException" "java/lang/Throwable" "stackTrace" "[Ljava/lang/StackTraceElement;") ∈ wT := List.mem_filter.mpr ⟨List.mem_of_getElem? (i := 427) (by decide +kernel), by decide +kernel⟩
theorem wd428 : (Jvm.Cond.lays "java/lang/ArithmeticException" "java/lang/Throwable" "suppressedExceptions" "Ljava/util/List;") ∈ wT := List.mem_filter.mpr ⟨List.mem_of_getElem? (i := 428) (by decide +kernel), by decide +kernel⟩
theorem wd429 : (Jvm.Cond.lays "java/lang/ArithmeticException" "java/lang/Throwable" "detailMessage" "Ljava/lang/String;") ∈ wT := List.mem_filter.mpr ⟨List.mem_of_getElem? (i := 429) (by decide +kernel), by decide +kernel⟩
theorem wd430 : (Jvm.Cond.lays "java/lang/ArithmeticException" "java/lang/Throwable" "backtrace" "Ljava/lang/Object;") ∈ wT := List.mem_filter.mpr ⟨List.mem_of_getElem? (i := 430) (by decide +kernel), by decide +kernel⟩
theorem wl431 : (Jvm.Cond.stringRef "RuleReader" (85 : Nat) "the contents are no number of 1 to 8 bytes, or not the shortest") ∈ lw_tbl := List.mem_of_getElem? (i := 431) (by decide +kernel)
theorem wd432 : (Jvm.Cond.methodLink "RuleReader" (87 : Nat) ({ cls := "java/lang/ArithmeticException", name := "<init>", desc := "(Ljava/lang/String;)V" } : Jvm.MethodName)) ∈ wT := List.mem_filter.mpr ⟨List.mem_of_getElem? (i := 432) (by decide +kernel), by decide +kernel⟩
theorem wd433 : (Jvm.Cond.instanceMethod ({ cls := "java/lang/ArithmeticException", name := "<init>", desc := "(Ljava/lang/String;)V" } : Jvm.MethodName)) ∈ wT := List.mem_filter.mpr ⟨List.mem_of_getElem? (i := 433) (by decide +kernel), by decide +kernel⟩
theorem wd434 : (Jvm.Cond.code ({ cls := "java/lang/ArithmeticException", name := "<init>", desc := "(Ljava/lang/String;)V" } : Jvm.MethodName) prog_7_method_2_code (2 : Nat) (Option.none : Option Jvm.ClassFile.FieldType)) ∈ wT := List.mem_filter.mpr ⟨List.mem_of_getElem? (i := 434) (by decide +kernel), by decide +kernel⟩
theorem wd435 : (Jvm.Cond.methodLink "java/lang/ArithmeticException" (7 : Nat) ({ cls := "java/lang/RuntimeException", name := "<init>", desc := "(Ljava/lang/String;)V" } : Jvm.MethodName)) ∈ wT := List.mem_filter.mpr ⟨List.mem_of_getElem? (i := 435) (by decide +kernel), by decide +kernel⟩
theorem wd436 : (Jvm.Cond.lays "java/lang/ArithmeticException" "java/lang/Throwable" "depth" "I") ∈ wT := List.mem_filter.mpr ⟨List.mem_of_getElem? (i := 436) (by decide +kernel), by decide +kernel⟩
theorem wd437 : (Jvm.Cond.superclass "java/lang/ArithmeticException" "java/lang/RuntimeException") ∈ wT := List.mem_filter.mpr ⟨List.mem_of_getElem? (i := 437) (by decide +kernel), by decide +kernel⟩
theorem wd438 : (Jvm.Cond.methodLink "RuleReader" (88 : Nat) ({ cls := "RuleReader$Nodes", name := "signedContents", desc := "(I)J" } : Jvm.MethodName)) ∈ wT := List.mem_filter.mpr ⟨List.mem_of_getElem? (i := 438) (by decide +kernel), by decide +kernel⟩
theorem wd439 : (Jvm.Cond.instanceMethod ({ cls := "RuleReader$Nodes", name := "signedContents", desc := "(I)J" } : Jvm.MethodName)) ∈ wT := List.mem_filter.mpr ⟨List.mem_of_getElem? (i := 439) (by decide +kernel), by decide +kernel⟩
theorem wd440 : (Jvm.Cond.selects "RuleReader$Nodes" ({ cls := "RuleReader$Nodes", name := "signedContents", desc := "(I)J" } : Jvm.MethodName) ({ cls := "RuleReader$Nodes", name := "signedContents", desc := "(I)J" } : Jvm.MethodName)) ∈ wT := List.mem_filter.mpr ⟨List.mem_of_getElem? (i := 440) (by decide +kernel), by decide +kernel⟩
theorem wd441 : (Jvm.Cond.code ({ cls := "RuleReader$Nodes", name := "signedContents", desc := "(I)J" } : Jvm.MethodName) prog_4_method_7_code (6 : Nat) (Option.some Jvm.ClassFile.FieldType.long)) ∈ wT := List.mem_filter.mpr ⟨List.mem_of_getElem? (i := 441) (by decide +kernel), by decide +kernel⟩
theorem wd442 : (Jvm.Cond.constantLong "RuleReader$Nodes" (59 : Nat) (-1 : Int64)) ∈ wT := List.mem_filter.mpr ⟨List.mem_of_getElem? (i := 442) (by decide +kernel), by decide +kernel⟩
theorem wd443 : (Jvm.Cond.methodLink "RuleReaderLaw" (83 : Nat) ({ cls := "RuleReaderLaw", name := "wrap", desc := "(LRuleReader;IIZ[J)I" } : Jvm.MethodName)) ∈ wT := List.mem_filter.mpr ⟨List.mem_of_getElem? (i := 443) (by decide +kernel), by decide +kernel⟩
theorem wd444 : (Jvm.Cond.static ({ cls := "RuleReaderLaw", name := "wrap", desc := "(LRuleReader;IIZ[J)I" } : Jvm.MethodName)) ∈ wT := List.mem_filter.mpr ⟨List.mem_of_getElem? (i := 444) (by decide +kernel), by decide +kernel⟩
theorem wd445 : (Jvm.Cond.codeWith ({ cls := "RuleReaderLaw", name := "wrap", desc := "(LRuleReader;IIZ[J)I" } : Jvm.MethodName) method_8_code (6 : Nat) (Option.some Jvm.ClassFile.FieldType.int) [((0 : Nat), (12 : Nat), (15 : Nat), (19 : Nat)), ((0 : Nat), (12 : Nat), (19 : Nat), (13 : Nat))]) ∈ wT := List.mem_filter.mpr ⟨List.mem_of_getElem? (i := 445) (by decide +kernel), by decide +kernel⟩
theorem wd446 : (Jvm.Cond.methodLink "RuleReaderLaw" (37 : Nat) ({ cls := "RuleReader", name := "wrap", desc := "(IIZ)I" } : Jvm.MethodName)) ∈ wT := List.mem_filter.mpr ⟨List.mem_of_getElem? (i := 446) (by decide +kernel), by decide +kernel⟩
theorem wd447 : (Jvm.Cond.instanceMethod ({ cls := "RuleReader", name := "wrap", desc := "(IIZ)I" } : Jvm.MethodName)) ∈ wT := List.mem_filter.mpr ⟨List.mem_of_getElem? (i := 447) (by decide +kernel), by decide +kernel⟩
theorem wd448 : (Jvm.Cond.selects "RuleReader" ({ cls := "RuleReader", name := "wrap", desc := "(IIZ)I" } : Jvm.MethodName) ({ cls := "RuleReader", name := "wrap", desc := "(IIZ)I" } : Jvm.MethodName)) ∈ wT := List.mem_filter.mpr ⟨List.mem_of_getElem? (i := 448) (by decide +kernel), by decide +kernel⟩
theorem wd449 : (Jvm.Cond.code ({ cls := "RuleReader", name := "wrap", desc := "(IIZ)I" } : Jvm.MethodName) prog_1_method_7_code (4 : Nat) (Option.some Jvm.ClassFile.FieldType.int)) ∈ wT := List.mem_filter.mpr ⟨List.mem_of_getElem? (i := 449) (by decide +kernel), by decide +kernel⟩
theorem wd450 : (Jvm.Cond.methodLink "RuleReader" (92 : Nat) ({ cls := "RuleReader", name := "isIdentifier", desc := "(II)Z" } : Jvm.MethodName)) ∈ wT := List.mem_filter.mpr ⟨List.mem_of_getElem? (i := 450) (by decide +kernel), by decide +kernel⟩
theorem wd451 : (Jvm.Cond.static ({ cls := "RuleReader", name := "isIdentifier", desc := "(II)Z" } : Jvm.MethodName)) ∈ wT := List.mem_filter.mpr ⟨List.mem_of_getElem? (i := 451) (by decide +kernel), by decide +kernel⟩
theorem wd452 : (Jvm.Cond.code ({ cls := "RuleReader", name := "isIdentifier", desc := "(II)Z" } : Jvm.MethodName) prog_1_method_12_code (2 : Nat) (Option.some Jvm.ClassFile.FieldType.boolean)) ∈ wT := List.mem_filter.mpr ⟨List.mem_of_getElem? (i := 452) (by decide +kernel), by decide +kernel⟩
theorem wl453 : (Jvm.Cond.stringRef "RuleReader" (96 : Nat) "class 0 to 3, number 0 to 2^31 - 1") ∈ lw_tbl := List.mem_of_getElem? (i := 453) (by decide +kernel)
theorem wd454 : (Jvm.Cond.methodLink "RuleReader" (98 : Nat) ({ cls := "RuleReader", name := "writeIdentifier", desc := "(IIZ)V" } : Jvm.MethodName)) ∈ wT := List.mem_filter.mpr ⟨List.mem_of_getElem? (i := 454) (by decide +kernel), by decide +kernel⟩
theorem wl455 : (Jvm.Cond.privateMethod ({ cls := "RuleReader", name := "writeIdentifier", desc := "(IIZ)V" } : Jvm.MethodName)) ∈ lw_tbl := List.mem_of_getElem? (i := 455) (by decide +kernel)
theorem wd456 : (Jvm.Cond.instanceMethod ({ cls := "RuleReader", name := "writeIdentifier", desc := "(IIZ)V" } : Jvm.MethodName)) ∈ wT := List.mem_filter.mpr ⟨List.mem_of_getElem? (i := 456) (by decide +kernel), by decide +kernel⟩
theorem wd457 : (Jvm.Cond.code ({ cls := "RuleReader", name := "writeIdentifier", desc := "(IIZ)V" } : Jvm.MethodName) prog_1_method_13_code (6 : Nat) (Option.none : Option Jvm.ClassFile.FieldType)) ∈ wT := List.mem_filter.mpr ⟨List.mem_of_getElem? (i := 457) (by decide +kernel), by decide +kernel⟩
theorem wd458 : (Jvm.Cond.methodLink "RuleReader" (127 : Nat) ({ cls := "RuleReader$Bytes", name := "append", desc := "(I)V" } : Jvm.MethodName)) ∈ wT := List.mem_filter.mpr ⟨List.mem_of_getElem? (i := 458) (by decide +kernel), by decide +kernel⟩
theorem wd459 : (Jvm.Cond.methodLink "RuleReader" (102 : Nat) ({ cls := "RuleReader", name := "writeLength", desc := "(I)V" } : Jvm.MethodName)) ∈ wT := List.mem_filter.mpr ⟨List.mem_of_getElem? (i := 459) (by decide +kernel), by decide +kernel⟩
theorem wl460 : (Jvm.Cond.privateMethod ({ cls := "RuleReader", name := "writeLength", desc := "(I)V" } : Jvm.MethodName)) ∈ lw_tbl := List.mem_of_getElem? (i := 460) (by decide +kernel)
theorem wd461 : (Jvm.Cond.instanceMethod ({ cls := "RuleReader", name := "writeLength", desc := "(I)V" } : Jvm.MethodName)) ∈ wT := List.mem_filter.mpr ⟨List.mem_of_getElem? (i := 461) (by decide +kernel), by decide +kernel⟩
theorem wd462 : (Jvm.Cond.code ({ cls := "RuleReader", name := "writeLength", desc := "(I)V" } : Jvm.MethodName) prog_1_method_14_code (2 : Nat) (Option.none : Option Jvm.ClassFile.FieldType)) ∈ wT := List.mem_filter.mpr ⟨List.mem_of_getElem? (i := 462) (by decide +kernel), by decide +kernel⟩
theorem wd463 : (Jvm.Cond.methodLink "RuleReader" (105 : Nat) ({ cls := "RuleReader$Bytes", name := "putInFront", desc := "(LRuleReader$Bytes;)V" } : Jvm.MethodName)) ∈ wT := List.mem_filter.mpr ⟨List.mem_of_getElem? (i := 463) (by decide +kernel), by decide +kernel⟩
theorem wd464 : (Jvm.Cond.instanceMethod ({ cls := "RuleReader$Bytes", name := "putInFront", desc := "(LRuleReader$Bytes;)V" } : Jvm.MethodName)) ∈ wT := List.mem_filter.mpr ⟨List.mem_of_getElem? (i := 464) (by decide +kernel), by decide +kernel⟩
theorem wd465 : (Jvm.Cond.selects "RuleReader$Bytes" ({ cls := "RuleReader$Bytes", name := "putInFront", desc := "(LRuleReader$Bytes;)V" } : Jvm.MethodName) ({ cls := "RuleReader$Bytes", name := "putInFront", desc := "(LRuleReader$Bytes;)V" } : Jvm.MethodName)) ∈ wT := List.mem_filter.mpr ⟨List.mem_of_getElem? (i := 465) (by decide +kernel), by decide +kernel⟩
theorem wd466 : (Jvm.Cond.code ({ cls := "RuleReader$Bytes", name := "putInFront", desc := "(LRuleReader$Bytes;)V" } : Jvm.MethodName) prog_2_method_9_code (4 : Nat) (Option.none : Option Jvm.ClassFile.FieldType)) ∈ wT := List.mem_filter.mpr ⟨List.mem_of_getElem? (i := 466) (by decide +kernel), by decide +kernel⟩
theorem wd467 : (Jvm.Cond.methodLink "RuleReaderLaw" (89 : Nat) ({ cls := "RuleReaderLaw", name := "add", desc := "(LRuleReader;IIJ[J)I" } : Jvm.MethodName)) ∈ wT := List.mem_filter.mpr ⟨List.mem_of_getElem? (i := 467) (by decide +kernel), by decide +kernel⟩
theorem wd468 : (Jvm.Cond.static ({ cls := "RuleReaderLaw", name := "add", desc := "(LRuleReader;IIJ[J)I" } : Jvm.MethodName)) ∈ wT := List.mem_filter.mpr ⟨List.mem_of_getElem? (i := 468) (by decide +kernel), by decide +kernel⟩
theorem wd469 : (Jvm.Cond.codeWith ({ cls := "RuleReaderLaw", name := "add", desc := "(LRuleReader;IIJ[J)I" } : Jvm.MethodName) method_9_code (7 : Nat) (Option.some Jvm.ClassFile.FieldType.int) [((0 : Nat), (12 : Nat), (15 : Nat), (19 : Nat)), ((0 : Nat), (12 : Nat), (19 : Nat), (13 : Nat))]) ∈ wT := List.mem_filter.mpr ⟨List.mem_of_getElem? (i := 469) (by decide +kernel), by decide +kernel⟩
theorem wd470 : (Jvm.Cond.methodLink "RuleReaderLaw" (41 : Nat) ({ cls := "RuleReader", name := "add", desc := "(IIJ)I" } : Jvm.MethodName)) ∈ wT := List.mem_filter.mpr ⟨List.mem_of_getElem? (i := 470) (by decide +kernel), by decide +kernel⟩
theorem wd471 : (Jvm.Cond.instanceMethod ({ cls := "RuleReader", name := "add", desc := "(IIJ)I" } : Jvm.MethodName)) ∈ wT := List.mem_filter.mpr ⟨List.mem_of_getElem? (i := 471) (by decide +kernel), by decide +kernel⟩
theorem wd472 : (Jvm.Cond.selects "RuleReader" ({ cls := "RuleReader", name := "add", desc := "(IIJ)I" } : Jvm.MethodName) ({ cls := "RuleReader", name := "add", desc := "(IIJ)I" } : Jvm.MethodName)) ∈ wT := List.mem_filter.mpr ⟨List.mem_of_getElem? (i := 472) (by decide +kernel), by decide +kernel⟩
theorem wd473 : (Jvm.Cond.code ({ cls := "RuleReader", name := "add", desc := "(IIJ)I" } : Jvm.MethodName) prog_1_method_8_code (6 : Nat) (Option.some Jvm.ClassFile.FieldType.int)) ∈ wT := List.mem_filter.mpr ⟨List.mem_of_getElem? (i := 473) (by decide +kernel), by decide +kernel⟩
theorem wd474 : (Jvm.Cond.methodLink "RuleReader" (109 : Nat) ({ cls := "RuleReader", name := "fewestBytes", desc := "(J)I" } : Jvm.MethodName)) ∈ wT := List.mem_filter.mpr ⟨List.mem_of_getElem? (i := 474) (by decide +kernel), by decide +kernel⟩
theorem wd475 : (Jvm.Cond.static ({ cls := "RuleReader", name := "fewestBytes", desc := "(J)I" } : Jvm.MethodName)) ∈ wT := List.mem_filter.mpr ⟨List.mem_of_getElem? (i := 475) (by decide +kernel), by decide +kernel⟩
theorem wd476 : (Jvm.Cond.code ({ cls := "RuleReader", name := "fewestBytes", desc := "(J)I" } : Jvm.MethodName) prog_1_method_15_code (5 : Nat) (Option.some Jvm.ClassFile.FieldType.int)) ∈ wT := List.mem_filter.mpr ⟨List.mem_of_getElem? (i := 476) (by decide +kernel), by decide +kernel⟩
theorem wd477 : (Jvm.Cond.constantLong "RuleReader" (130 : Nat) (-1 : Int64)) ∈ wT := List.mem_filter.mpr ⟨List.mem_of_getElem? (i := 477) (by decide +kernel), by decide +kernel⟩
theorem wd478 : (Jvm.Cond.methodLink "RuleReader" (113 : Nat) ({ cls := "RuleReader$Bytes", name := "putBehind", desc := "(LRuleReader$Bytes;)V" } : Jvm.MethodName)) ∈ wT := List.mem_filter.mpr ⟨List.mem_of_getElem? (i := 478) (by decide +kernel), by decide +kernel⟩
theorem wd479 : (Jvm.Cond.methodLink "RuleReaderLaw" (93 : Nat) ({ cls := "RuleReaderLaw", name := "compare", desc := "(LRuleReader;II[J)I" } : Jvm.MethodName)) ∈ wT := List.mem_filter.mpr ⟨List.mem_of_getElem? (i := 479) (by decide +kernel), by decide +kernel⟩
theorem wd480 : (Jvm.Cond.static ({ cls := "RuleReaderLaw", name := "compare", desc := "(LRuleReader;II[J)I" } : Jvm.MethodName)) ∈ wT := List.mem_filter.mpr ⟨List.mem_of_getElem? (i := 480) (by decide +kernel), by decide +kernel⟩
theorem wd481 : (Jvm.Cond.codeWith ({ cls := "RuleReaderLaw", name := "compare", desc := "(LRuleReader;II[J)I" } : Jvm.MethodName) method_10_code (5 : Nat) (Option.some Jvm.ClassFile.FieldType.int) [((0 : Nat), (10 : Nat), (13 : Nat), (19 : Nat))]) ∈ wT := List.mem_filter.mpr ⟨List.mem_of_getElem? (i := 481) (by decide +kernel), by decide +kernel⟩
theorem wd482 : (Jvm.Cond.methodLink "RuleReaderLaw" (45 : Nat) ({ cls := "RuleReader", name := "compare", desc := "(II)I" } : Jvm.MethodName)) ∈ wT := List.mem_filter.mpr ⟨List.mem_of_getElem? (i := 482) (by decide +kernel), by decide +kernel⟩
theorem wd483 : (Jvm.Cond.instanceMethod ({ cls := "RuleReader", name := "compare", desc := "(II)I" } : Jvm.MethodName)) ∈ wT := List.mem_filter.mpr ⟨List.mem_of_getElem? (i := 483) (by decide +kernel), by decide +kernel⟩
theorem wd484 : (Jvm.Cond.selects "RuleReader" ({ cls := "RuleReader", name := "compare", desc := "(II)I" } : Jvm.MethodName) ({ cls := "RuleReader", name := "compare", desc := "(II)I" } : Jvm.MethodName)) ∈ wT := List.mem_filter.mpr ⟨List.mem_of_getElem? (i := 484) (by decide +kernel), by decide +kernel⟩
theorem wd485 : (Jvm.Cond.code ({ cls := "RuleReader", name := "compare", desc := "(II)I" } : Jvm.MethodName) prog_1_method_9_code (3 : Nat) (Option.some Jvm.ClassFile.FieldType.int)) ∈ wT := List.mem_filter.mpr ⟨List.mem_of_getElem? (i := 485) (by decide +kernel), by decide +kernel⟩
theorem wd486 : (Jvm.Cond.methodLink "RuleReader" (116 : Nat) ({ cls := "RuleReader$Nodes", name := "orderOf", desc := "(II)I" } : Jvm.MethodName)) ∈ wT := List.mem_filter.mpr ⟨List.mem_of_getElem? (i := 486) (by decide +kernel), by decide +kernel⟩
theorem wd487 : (Jvm.Cond.instanceMethod ({ cls := "RuleReader$Nodes", name := "orderOf", desc := "(II)I" } : Jvm.MethodName)) ∈ wT := List.mem_filter.mpr ⟨List.mem_of_getElem? (i := 487) (by decide +kernel), by decide +kernel⟩
theorem wd488 : (Jvm.Cond.selects "RuleReader$Nodes" ({ cls := "RuleReader$Nodes", name := "orderOf", desc := "(II)I" } : Jvm.MethodName) ({ cls := "RuleReader$Nodes", name := "orderOf", desc := "(II)I" } : Jvm.MethodName)) ∈ wT := List.mem_filter.mpr ⟨List.mem_of_getElem? (i := 488) (by decide +kernel), by decide +kernel⟩
theorem wd489 : (Jvm.Cond.code ({ cls := "RuleReader$Nodes", name := "orderOf", desc := "(II)I" } : Jvm.MethodName) prog_4_method_8_code (6 : Nat) (Option.some Jvm.ClassFile.FieldType.int)) ∈ wT := List.mem_filter.mpr ⟨List.mem_of_getElem? (i := 489) (by decide +kernel), by decide +kernel⟩
theorem wd490 : (Jvm.Cond.methodLink "RuleReader$Nodes" (66 : Nat) ({ cls := "java/lang/Math", name := "max", desc := "(II)I" } : Jvm.MethodName)) ∈ wT := List.mem_filter.mpr ⟨List.mem_of_getElem? (i := 490) (by decide +kernel), by decide +kernel⟩
theorem wd491 : (Jvm.Cond.methodLink "RuleReader$Nodes" (69 : Nat) ({ cls := "java/lang/Integer", name := "compare", desc := "(II)I" } : Jvm.MethodName)) ∈ wT := List.mem_filter.mpr ⟨List.mem_of_getElem? (i := 491) (by decide +kernel), by decide +kernel⟩
theorem wd492 : (Jvm.Cond.static ({ cls := "java/lang/Integer", name := "compare", desc := "(II)I" } : Jvm.MethodName)) ∈ wT := List.mem_filter.mpr ⟨List.mem_of_getElem? (i := 492) (by decide +kernel), by decide +kernel⟩
theorem wd493 : (Jvm.Cond.code ({ cls := "java/lang/Integer", name := "compare", desc := "(II)I" } : Jvm.MethodName) prog_12_method_40_code (2 : Nat) (Option.some Jvm.ClassFile.FieldType.int)) ∈ wT := List.mem_filter.mpr ⟨List.mem_of_getElem? (i := 493) (by decide +kernel), by decide +kernel⟩
theorem wd494 : (Jvm.Cond.methodLink "RuleReaderLaw" (96 : Nat) ({ cls := "RuleReaderLaw", name := "count", desc := "(LRuleReader;I[J)I" } : Jvm.MethodName)) ∈ wT := List.mem_filter.mpr ⟨List.mem_of_getElem? (i := 494) (by decide +kernel), by decide +kernel⟩
theorem wd495 : (Jvm.Cond.static ({ cls := "RuleReaderLaw", name := "count", desc := "(LRuleReader;I[J)I" } : Jvm.MethodName)) ∈ wT := List.mem_filter.mpr ⟨List.mem_of_getElem? (i := 495) (by decide +kernel), by decide +kernel⟩
theorem wd496 : (Jvm.Cond.codeWith ({ cls := "RuleReaderLaw", name := "count", desc := "(LRuleReader;I[J)I" } : Jvm.MethodName) method_11_code (4 : Nat) (Option.some Jvm.ClassFile.FieldType.int) [((0 : Nat), (9 : Nat), (12 : Nat), (19 : Nat))]) ∈ wT := List.mem_filter.mpr ⟨List.mem_of_getElem? (i := 496) (by decide +kernel), by decide +kernel⟩
theorem wd497 : (Jvm.Cond.methodLink "RuleReaderLaw" (48 : Nat) ({ cls := "RuleReader", name := "count", desc := "(I)I" } : Jvm.MethodName)) ∈ wT := List.mem_filter.mpr ⟨List.mem_of_getElem? (i := 497) (by decide +kernel), by decide +kernel⟩
theorem wd498 : (Jvm.Cond.instanceMethod ({ cls := "RuleReader", name := "count", desc := "(I)I" } : Jvm.MethodName)) ∈ wT := List.mem_filter.mpr ⟨List.mem_of_getElem? (i := 498) (by decide +kernel), by decide +kernel⟩
theorem wd499 : (Jvm.Cond.selects "RuleReader" ({ cls := "RuleReader", name := "count", desc := "(I)I" } : Jvm.MethodName) ({ cls := "RuleReader", name := "count", desc := "(I)I" } : Jvm.MethodName)) ∈ wT := List.mem_filter.mpr ⟨List.mem_of_getElem? (i := 499) (by decide +kernel), by decide +kernel⟩
theorem wd500 : (Jvm.Cond.code ({ cls := "RuleReader", name := "count", desc := "(I)I" } : Jvm.MethodName) prog_1_method_10_code (2 : Nat) (Option.some Jvm.ClassFile.FieldType.int)) ∈ wT := List.mem_filter.mpr ⟨List.mem_of_getElem? (i := 500) (by decide +kernel), by decide +kernel⟩
theorem wl501 : (Jvm.Cond.stringRef "RuleReader" (119 : Nat) "what is 0 or 1") ∈ lw_tbl := List.mem_of_getElem? (i := 501) (by decide +kernel)
theorem wd502 : (Jvm.Cond.methodLink "RuleReaderLaw" (99 : Nat) ({ cls := "RuleReaderLaw", name := "word", desc := "(LRuleReader;I[J)I" } : Jvm.MethodName)) ∈ wT := List.mem_filter.mpr ⟨List.mem_of_getElem? (i := 502) (by decide +kernel), by decide +kernel⟩
theorem wd503 : (Jvm.Cond.static ({ cls := "RuleReaderLaw", name := "word", desc := "(LRuleReader;I[J)I" } : Jvm.MethodName)) ∈ wT := List.mem_filter.mpr ⟨List.mem_of_getElem? (i := 503) (by decide +kernel), by decide +kernel⟩
theorem wd504 : (Jvm.Cond.codeWith ({ cls := "RuleReaderLaw", name := "word", desc := "(LRuleReader;I[J)I" } : Jvm.MethodName) method_12_code (4 : Nat) (Option.some Jvm.ClassFile.FieldType.int) [((0 : Nat), (8 : Nat), (11 : Nat), (13 : Nat))]) ∈ wT := List.mem_filter.mpr ⟨List.mem_of_getElem? (i := 504) (by decide +kernel), by decide +kernel⟩
theorem wd505 : (Jvm.Cond.methodLink "RuleReaderLaw" (51 : Nat) ({ cls := "RuleReader", name := "word", desc := "(I)J" } : Jvm.MethodName)) ∈ wT := List.mem_filter.mpr ⟨List.mem_of_getElem? (i := 505) (by decide +kernel), by decide +kernel⟩
theorem wd506 : (Jvm.Cond.instanceMethod ({ cls := "RuleReader", name := "word", desc := "(I)J" } : Jvm.MethodName)) ∈ wT := List.mem_filter.mpr ⟨List.mem_of_getElem? (i := 506) (by decide +kernel), by decide +kernel⟩
theorem wd507 : (Jvm.Cond.selects "RuleReader" ({ cls := "RuleReader", name := "word", desc := "(I)J" } : Jvm.MethodName) ({ cls := "RuleReader", name := "word", desc := "(I)J" } : Jvm.MethodName)) ∈ wT := List.mem_filter.mpr ⟨List.mem_of_getElem? (i := 507) (by decide +kernel), by decide +kernel⟩
theorem wd508 : (Jvm.Cond.code ({ cls := "RuleReader", name := "word", desc := "(I)J" } : Jvm.MethodName) prog_1_method_11_code (5 : Nat) (Option.some Jvm.ClassFile.FieldType.long)) ∈ wT := List.mem_filter.mpr ⟨List.mem_of_getElem? (i := 508) (by decide +kernel), by decide +kernel⟩
theorem wl509 : (Jvm.Cond.stringRef "RuleReader" (121 : Nat) "the tape has no such byte") ∈ lw_tbl := List.mem_of_getElem? (i := 509) (by decide +kernel)
theorem wd510 : (Jvm.Cond.methodLink "RuleReader" (123 : Nat) ({ cls := "RuleReader$Bytes", name := "at", desc := "(I)I" } : Jvm.MethodName)) ∈ wT := List.mem_filter.mpr ⟨List.mem_of_getElem? (i := 510) (by decide +kernel), by decide +kernel⟩
theorem wd511 : (Jvm.Cond.classLink "RuleReaderLaw" (55 : Nat) "RuleReaderModel") ∈ wT := List.mem_filter.mpr ⟨List.mem_of_getElem? (i := 511) (by decide +kernel), by decide +kernel⟩
theorem wd512 : (Jvm.Cond.instantiable "RuleReaderModel" (10 : Nat)) ∈ wT := List.mem_filter.mpr ⟨List.mem_of_getElem? (i := 512) (by decide +kernel), by decide +kernel⟩
theorem wd513 : (Jvm.Cond.methodLink "RuleReaderLaw" (57 : Nat) ({ cls := "RuleReaderModel", name := "<init>", desc := "()V" } : Jvm.MethodName)) ∈ wT := List.mem_filter.mpr ⟨List.mem_of_getElem? (i := 513) (by decide +kernel), by decide +kernel⟩
theorem wd514 : (Jvm.Cond.instanceMethod ({ cls := "RuleReaderModel", name := "<init>", desc := "()V" } : Jvm.MethodName)) ∈ wT := List.mem_filter.mpr ⟨List.mem_of_getElem? (i := 514) (by decide +kernel), by decide +kernel⟩
theorem wd515 : (Jvm.Cond.code ({ cls := "RuleReaderModel", name := "<init>", desc := "()V" } : Jvm.MethodName) prog_6_method_1_code (1 : Nat) (Option.none : Option Jvm.ClassFile.FieldType)) ∈ wT := List.mem_filter.mpr ⟨List.mem_of_getElem? (i := 515) (by decide +kernel), by decide +kernel⟩
theorem wd516 : (Jvm.Cond.methodLink "RuleReaderModel" (1 : Nat) ({ cls := "java/lang/Object", name := "<init>", desc := "()V" } : Jvm.MethodName)) ∈ wT := List.mem_filter.mpr ⟨List.mem_of_getElem? (i := 516) (by decide +kernel), by decide +kernel⟩
theorem wd517 : (Jvm.Cond.fieldLink "RuleReaderModel" (23 : Nat) "RuleReaderModel" "failed" "I") ∈ wT := List.mem_filter.mpr ⟨List.mem_of_getElem? (i := 517) (by decide +kernel), by decide +kernel⟩
theorem wd518 : (Jvm.Cond.fieldLink "RuleReaderModel" (7 : Nat) "RuleReaderModel" "tape" "[B") ∈ wT := List.mem_filter.mpr ⟨List.mem_of_getElem? (i := 518) (by decide +kernel), by decide +kernel⟩
theorem wd519 : (Jvm.Cond.fieldLink "RuleReaderModel" (27 : Nat) "RuleReaderModel" "taped" "I") ∈ wT := List.mem_filter.mpr ⟨List.mem_of_getElem? (i := 519) (by decide +kernel), by decide +kernel⟩
theorem wd520 : (Jvm.Cond.fieldLink "RuleReaderModel" (13 : Nat) "RuleReaderModel" "kept" "[B") ∈ wT := List.mem_filter.mpr ⟨List.mem_of_getElem? (i := 520) (by decide +kernel), by decide +kernel⟩
theorem wd521 : (Jvm.Cond.fieldLink "RuleReaderModel" (77 : Nat) "RuleReaderModel" "nodes" "I") ∈ wT := List.mem_filter.mpr ⟨List.mem_of_getElem? (i := 521) (by decide +kernel), by decide +kernel⟩
theorem wd522 : (Jvm.Cond.fieldLink "RuleReaderModel" (16 : Nat) "RuleReaderModel" "told" "[I") ∈ wT := List.mem_filter.mpr ⟨List.mem_of_getElem? (i := 522) (by decide +kernel), by decide +kernel⟩
theorem wd523 : (Jvm.Cond.fieldLink "RuleReaderModel" (20 : Nat) "RuleReaderModel" "trial" "[I") ∈ wT := List.mem_filter.mpr ⟨List.mem_of_getElem? (i := 523) (by decide +kernel), by decide +kernel⟩
theorem wd524 : (Jvm.Cond.fieldLink "RuleReaderModel" (34 : Nat) "RuleReaderModel" "at" "I") ∈ wT := List.mem_filter.mpr ⟨List.mem_of_getElem? (i := 524) (by decide +kernel), by decide +kernel⟩
theorem wd525 : (Jvm.Cond.fieldLink "RuleReaderModel" (37 : Nat) "RuleReaderModel" "made" "I") ∈ wT := List.mem_filter.mpr ⟨List.mem_of_getElem? (i := 525) (by decide +kernel), by decide +kernel⟩
theorem wd526 : (Jvm.Cond.fieldLink "RuleReaderModel" (64 : Nat) "RuleReaderModel" "strict" "Z") ∈ wT := List.mem_filter.mpr ⟨List.mem_of_getElem? (i := 526) (by decide +kernel), by decide +kernel⟩
theorem wd527 : (Jvm.Cond.lays "RuleReaderModel" "RuleReaderModel" "failed" "I") ∈ wT := List.mem_filter.mpr ⟨List.mem_of_getElem? (i := 527) (by decide +kernel), by decide +kernel⟩
theorem wd528 : (Jvm.Cond.soleField "RuleReaderModel" "failed") ∈ wT := List.mem_filter.mpr ⟨List.mem_of_getElem? (i := 528) (by decide +kernel), by decide +kernel⟩
theorem wd529 : (Jvm.Cond.laysFinal "RuleReaderModel" "RuleReaderModel" "tape" "[B") ∈ wT := List.mem_filter.mpr ⟨List.mem_of_getElem? (i := 529) (by decide +kernel), by decide +kernel⟩
theorem wd530 : (Jvm.Cond.soleField "RuleReaderModel" "tape") ∈ wT := List.mem_filter.mpr ⟨List.mem_of_getElem? (i := 530) (by decide +kernel), by decide +kernel⟩
theorem wd531 : (Jvm.Cond.lays "RuleReaderModel" "RuleReaderModel" "taped" "I") ∈ wT := List.mem_filter.mpr ⟨List.mem_of_getElem? (i := 531) (by decide +kernel), by decide +kernel⟩
theorem wd532 : (Jvm.Cond.soleField "RuleReaderModel" "taped") ∈ wT := List.mem_filter.mpr ⟨List.mem_of_getElem? (i := 532) (by decide +kernel), by decide +kernel⟩
theorem wd533 : (Jvm.Cond.laysFinal "RuleReaderModel" "RuleReaderModel" "kept" "[B") ∈ wT := List.mem_filter.mpr ⟨List.mem_of_getElem? (i := 533) (by decide +kernel), by decide +kernel⟩
theorem wd534 : (Jvm.Cond.soleField "RuleReaderModel" "kept") ∈ wT := List.mem_filter.mpr ⟨List.mem_of_getElem? (i := 534) (by decide +kernel), by decide +kernel⟩
theorem wd535 : (Jvm.Cond.lays "RuleReaderModel" "RuleReaderModel" "nodes" "I") ∈ wT := List.mem_filter.mpr ⟨List.mem_of_getElem? (i := 535) (by decide +kernel), by decide +kernel⟩
theorem wd536 : (Jvm.Cond.soleField "RuleReaderModel" "nodes") ∈ wT := List.mem_filter.mpr ⟨List.mem_of_getElem? (i := 536) (by decide +kernel), by decide +kernel⟩
theorem wd537 : (Jvm.Cond.laysFinal "RuleReaderModel" "RuleReaderModel" "told" "[I") ∈ wT := List.mem_filter.mpr ⟨List.mem_of_getElem? (i := 537) (by decide +kernel), by decide +kernel⟩
theorem wd538 : (Jvm.Cond.soleField "RuleReaderModel" "told") ∈ wT := List.mem_filter.mpr ⟨List.mem_of_getElem? (i := 538) (by decide +kernel), by decide +kernel⟩
theorem wd539 : (Jvm.Cond.laysFinal "RuleReaderModel" "RuleReaderModel" "trial" "[I") ∈ wT := List.mem_filter.mpr ⟨List.mem_of_getElem? (i := 539) (by decide +kernel), by decide +kernel⟩
theorem wd540 : (Jvm.Cond.soleField "RuleReaderModel" "trial") ∈ wT := List.mem_filter.mpr ⟨List.mem_of_getElem? (i := 540) (by decide +kernel), by decide +kernel⟩
theorem wd541 : (Jvm.Cond.lays "RuleReaderModel" "RuleReaderModel" "at" "I") ∈ wT := List.mem_filter.mpr ⟨List.mem_of_getElem? (i := 541) (by decide +kernel), by decide +kernel⟩
theorem wd542 : (Jvm.Cond.soleField "RuleReaderModel" "at") ∈ wT := List.mem_filter.mpr ⟨List.mem_of_getElem? (i := 542) (by decide +kernel), by decide +kernel⟩
theorem wd543 : (Jvm.Cond.lays "RuleReaderModel" "RuleReaderModel" "made" "I") ∈ wT := List.mem_filter.mpr ⟨List.mem_of_getElem? (i := 543) (by decide +kernel), by decide +kernel⟩
theorem wd544 : (Jvm.Cond.soleField "RuleReaderModel" "made") ∈ wT := List.mem_filter.mpr ⟨List.mem_of_getElem? (i := 544) (by decide +kernel), by decide +kernel⟩
theorem wd545 : (Jvm.Cond.lays "RuleReaderModel" "RuleReaderModel" "strict" "Z") ∈ wT := List.mem_filter.mpr ⟨List.mem_of_getElem? (i := 545) (by decide +kernel), by decide +kernel⟩
theorem wd546 : (Jvm.Cond.soleField "RuleReaderModel" "strict") ∈ wT := List.mem_filter.mpr ⟨List.mem_of_getElem? (i := 546) (by decide +kernel), by decide +kernel⟩
theorem wd547 : (Jvm.Cond.superclass "RuleReaderModel" "java/lang/Object") ∈ wT := List.mem_filter.mpr ⟨List.mem_of_getElem? (i := 547) (by decide +kernel), by decide +kernel⟩
theorem wd548 : (Jvm.Cond.methodLink "RuleReaderLaw" (64 : Nat) ({ cls := "RuleReaderModel", name := "thrown", desc := "()I" } : Jvm.MethodName)) ∈ wT := List.mem_filter.mpr ⟨List.mem_of_getElem? (i := 548) (by decide +kernel), by decide +kernel⟩
theorem wd549 : (Jvm.Cond.instanceMethod ({ cls := "RuleReaderModel", name := "thrown", desc := "()I" } : Jvm.MethodName)) ∈ wT := List.mem_filter.mpr ⟨List.mem_of_getElem? (i := 549) (by decide +kernel), by decide +kernel⟩
theorem wd550 : (Jvm.Cond.selects "RuleReaderModel" ({ cls := "RuleReaderModel", name := "thrown", desc := "()I" } : Jvm.MethodName) ({ cls := "RuleReaderModel", name := "thrown", desc := "()I" } : Jvm.MethodName)) ∈ wT := List.mem_filter.mpr ⟨List.mem_of_getElem? (i := 550) (by decide +kernel), by decide +kernel⟩
theorem wd551 : (Jvm.Cond.code ({ cls := "RuleReaderModel", name := "thrown", desc := "()I" } : Jvm.MethodName) prog_6_method_2_code (1 : Nat) (Option.some Jvm.ClassFile.FieldType.int)) ∈ wT := List.mem_filter.mpr ⟨List.mem_of_getElem? (i := 551) (by decide +kernel), by decide +kernel⟩
theorem wd552 : (Jvm.Cond.methodLink "RuleReaderLaw" (63 : Nat) ({ cls := "RuleReaderModel", name := "feed", desc := "(IIIII)I" } : Jvm.MethodName)) ∈ wT := List.mem_filter.mpr ⟨List.mem_of_getElem? (i := 552) (by decide +kernel), by decide +kernel⟩
theorem wd553 : (Jvm.Cond.instanceMethod ({ cls := "RuleReaderModel", name := "feed", desc := "(IIIII)I" } : Jvm.MethodName)) ∈ wT := List.mem_filter.mpr ⟨List.mem_of_getElem? (i := 553) (by decide +kernel), by decide +kernel⟩
theorem wd554 : (Jvm.Cond.selects "RuleReaderModel" ({ cls := "RuleReaderModel", name := "feed", desc := "(IIIII)I" } : Jvm.MethodName) ({ cls := "RuleReaderModel", name := "feed", desc := "(IIIII)I" } : Jvm.MethodName)) ∈ wT := List.mem_filter.mpr ⟨List.mem_of_getElem? (i := 554) (by decide +kernel), by decide +kernel⟩
theorem wd555 : (Jvm.Cond.code ({ cls := "RuleReaderModel", name := "feed", desc := "(IIIII)I" } : Jvm.MethodName) prog_6_method_4_code (8 : Nat) (Option.some Jvm.ClassFile.FieldType.int)) ∈ wT := List.mem_filter.mpr ⟨List.mem_of_getElem? (i := 555) (by decide +kernel), by decide +kernel⟩
theorem wd556 : (Jvm.Cond.methodLink "RuleReaderModel" (30 : Nat) ({ cls := "RuleReaderModel", name := "fail", desc := "(I)I" } : Jvm.MethodName)) ∈ wT := List.mem_filter.mpr ⟨List.mem_of_getElem? (i := 556) (by decide +kernel), by decide +kernel⟩
theorem wl557 : (Jvm.Cond.privateMethod ({ cls := "RuleReaderModel", name := "fail", desc := "(I)I" } : Jvm.MethodName)) ∈ lw_tbl := List.mem_of_getElem? (i := 557) (by decide +kernel)
theorem wd558 : (Jvm.Cond.instanceMethod ({ cls := "RuleReaderModel", name := "fail", desc := "(I)I" } : Jvm.MethodName)) ∈ wT := List.mem_filter.mpr ⟨List.mem_of_getElem? (i := 558) (by decide +kernel), by decide +kernel⟩
theorem wd559 : (Jvm.Cond.code ({ cls := "RuleReaderModel", name := "fail", desc := "(I)I" } : Jvm.MethodName) prog_6_method_3_code (2 : Nat) (Option.some Jvm.ClassFile.FieldType.int)) ∈ wT := List.mem_filter.mpr ⟨List.mem_of_getElem? (i := 559) (by decide +kernel), by decide +kernel⟩
theorem wd560 : (Jvm.Cond.methodLink "RuleReaderLaw" (71 : Nat) ({ cls := "RuleReaderModel", name := "end", desc := "(I)I" } : Jvm.MethodName)) ∈ wT := List.mem_filter.mpr ⟨List.mem_of_getElem? (i := 560) (by decide +kernel), by decide +kernel⟩
theorem wd561 : (Jvm.Cond.instanceMethod ({ cls := "RuleReaderModel", name := "end", desc := "(I)I" } : Jvm.MethodName)) ∈ wT := List.mem_filter.mpr ⟨List.mem_of_getElem? (i := 561) (by decide +kernel), by decide +kernel⟩
theorem wd562 : (Jvm.Cond.selects "RuleReaderModel" ({ cls := "RuleReaderModel", name := "end", desc := "(I)I" } : Jvm.MethodName) ({ cls := "RuleReaderModel", name := "end", desc := "(I)I" } : Jvm.MethodName)) ∈ wT := List.mem_filter.mpr ⟨List.mem_of_getElem? (i := 562) (by decide +kernel), by decide +kernel⟩
theorem wd563 : (Jvm.Cond.code ({ cls := "RuleReaderModel", name := "end", desc := "(I)I" } : Jvm.MethodName) prog_6_method_5_code (2 : Nat) (Option.some Jvm.ClassFile.FieldType.int)) ∈ wT := List.mem_filter.mpr ⟨List.mem_of_getElem? (i := 563) (by decide +kernel), by decide +kernel⟩
theorem wd564 : (Jvm.Cond.methodLink "RuleReaderLaw" (75 : Nat) ({ cls := "RuleReaderModel", name := "read", desc := "(Z)I" } : Jvm.MethodName)) ∈ wT := List.mem_filter.mpr ⟨List.mem_of_getElem? (i := 564) (by decide +kernel), by decide +kernel⟩
theorem wd565 : (Jvm.Cond.instanceMethod ({ cls := "RuleReaderModel", name := "read", desc := "(Z)I" } : Jvm.MethodName)) ∈ wT := List.mem_filter.mpr ⟨List.mem_of_getElem? (i := 565) (by decide +kernel), by decide +kernel⟩
theorem wd566 : (Jvm.Cond.selects "RuleReaderModel" ({ cls := "RuleReaderModel", name := "read", desc := "(Z)I" } : Jvm.MethodName) ({ cls := "RuleReaderModel", name := "read", desc := "(Z)I" } : Jvm.MethodName)) ∈ wT := List.mem_filter.mpr ⟨List.mem_of_getElem? (i := 566) (by decide +kernel), by decide +kernel⟩
theorem wd567 : (Jvm.Cond.code ({ cls := "RuleReaderModel", name := "read", desc := "(Z)I" } : Jvm.MethodName) prog_6_method_10_code (3 : Nat) (Option.some Jvm.ClassFile.FieldType.int)) ∈ wT := List.mem_filter.mpr ⟨List.mem_of_getElem? (i := 567) (by decide +kernel), by decide +kernel⟩
theorem wd568 : (Jvm.Cond.methodLink "RuleReaderModel" (72 : Nat) ({ cls := "RuleReaderModel", name := "value", desc := "(III)Z" } : Jvm.MethodName)) ∈ wT := List.mem_filter.mpr ⟨List.mem_of_getElem? (i := 568) (by decide +kernel), by decide +kernel⟩
theorem wl569 : (Jvm.Cond.privateMethod ({ cls := "RuleReaderModel", name := "value", desc := "(III)Z" } : Jvm.MethodName)) ∈ lw_tbl := List.mem_of_getElem? (i := 569) (by decide +kernel)
theorem wd570 : (Jvm.Cond.instanceMethod ({ cls := "RuleReaderModel", name := "value", desc := "(III)Z" } : Jvm.MethodName)) ∈ wT := List.mem_filter.mpr ⟨List.mem_of_getElem? (i := 570) (by decide +kernel), by decide +kernel⟩
theorem wd571 : (Jvm.Cond.code ({ cls := "RuleReaderModel", name := "value", desc := "(III)Z" } : Jvm.MethodName) prog_6_method_7_code (11 : Nat) (Option.some Jvm.ClassFile.FieldType.boolean)) ∈ wT := List.mem_filter.mpr ⟨List.mem_of_getElem? (i := 571) (by decide +kernel), by decide +kernel⟩
theorem wd572 : (Jvm.Cond.methodLink "RuleReaderModel" (40 : Nat) ({ cls := "RuleReaderModel", name := "next", desc := "()I" } : Jvm.MethodName)) ∈ wT := List.mem_filter.mpr ⟨List.mem_of_getElem? (i := 572) (by decide +kernel), by decide +kernel⟩
theorem wl573 : (Jvm.Cond.privateMethod ({ cls := "RuleReaderModel", name := "next", desc := "()I" } : Jvm.MethodName)) ∈ lw_tbl := List.mem_of_getElem? (i := 573) (by decide +kernel)
theorem wd574 : (Jvm.Cond.instanceMethod ({ cls := "RuleReaderModel", name := "next", desc := "()I" } : Jvm.MethodName)) ∈ wT := List.mem_filter.mpr ⟨List.mem_of_getElem? (i := 574) (by decide +kernel), by decide +kernel⟩
theorem wd575 : (Jvm.Cond.code ({ cls := "RuleReaderModel", name := "next", desc := "()I" } : Jvm.MethodName) prog_6_method_6_code (2 : Nat) (Option.some Jvm.ClassFile.FieldType.int)) ∈ wT := List.mem_filter.mpr ⟨List.mem_of_getElem? (i := 575) (by decide +kernel), by decide +kernel⟩
theorem wd576 : (Jvm.Cond.constantLong "RuleReaderModel" (44 : Nat) (31 : Int64)) ∈ wT := List.mem_filter.mpr ⟨List.mem_of_getElem? (i := 576) (by decide +kernel), by decide +kernel⟩
theorem wd577 : (Jvm.Cond.constantLong "RuleReaderModel" (46 : Nat) (1099511627776 : Int64)) ∈ wT := List.mem_filter.mpr ⟨List.mem_of_getElem? (i := 577) (by decide +kernel), by decide +kernel⟩
theorem wd578 : (Jvm.Cond.methodLink "RuleReaderModel" (48 : Nat) ({ cls := "java/lang/Math", name := "min", desc := "(JJ)J" } : Jvm.MethodName)) ∈ wT := List.mem_filter.mpr ⟨List.mem_of_getElem? (i := 578) (by decide +kernel), by decide +kernel⟩
theorem wd579 : (Jvm.Cond.static ({ cls := "java/lang/Math", name := "min", desc := "(JJ)J" } : Jvm.MethodName)) ∈ wT := List.mem_filter.mpr ⟨List.mem_of_getElem? (i := 579) (by decide +kernel), by decide +kernel⟩
theorem wd580 : (Jvm.Cond.code ({ cls := "java/lang/Math", name := "min", desc := "(JJ)J" } : Jvm.MethodName) prog_13_method_70_code (4 : Nat) (Option.some Jvm.ClassFile.FieldType.long)) ∈ wT := List.mem_filter.mpr ⟨List.mem_of_getElem? (i := 580) (by decide +kernel), by decide +kernel⟩
theorem wd581 : (Jvm.Cond.constantLong "RuleReaderModel" (54 : Nat) (2147483647 : Int64)) ∈ wT := List.mem_filter.mpr ⟨List.mem_of_getElem? (i := 581) (by decide +kernel), by decide +kernel⟩
theorem wd582 : (Jvm.Cond.methodLink "RuleReaderModel" (56 : Nat) ({ cls := "RuleReaderModel", name := "length", desc := "()J" } : Jvm.MethodName)) ∈ wT := List.mem_filter.mpr ⟨List.mem_of_getElem? (i := 582) (by decide +kernel), by decide +kernel⟩
theorem wl583 : (Jvm.Cond.privateMethod ({ cls := "RuleReaderModel", name := "length", desc := "()J" } : Jvm.MethodName)) ∈ lw_tbl := List.mem_of_getElem? (i := 583) (by decide +kernel)
theorem wd584 : (Jvm.Cond.instanceMethod ({ cls := "RuleReaderModel", name := "length", desc := "()J" } : Jvm.MethodName)) ∈ wT := List.mem_filter.mpr ⟨List.mem_of_getElem? (i := 584) (by decide +kernel), by decide +kernel⟩
theorem wd585 : (Jvm.Cond.code ({ cls := "RuleReaderModel", name := "length", desc := "()J" } : Jvm.MethodName) prog_6_method_9_code (6 : Nat) (Option.some Jvm.ClassFile.FieldType.long)) ∈ wT := List.mem_filter.mpr ⟨List.mem_of_getElem? (i := 585) (by decide +kernel), by decide +kernel⟩
theorem wd586 : (Jvm.Cond.constantLong "RuleReaderModel" (60 : Nat) (-2 : Int64)) ∈ wT := List.mem_filter.mpr ⟨List.mem_of_getElem? (i := 586) (by decide +kernel), by decide +kernel⟩
theorem wd587 : (Jvm.Cond.constantLong "RuleReaderModel" (62 : Nat) (-1 : Int64)) ∈ wT := List.mem_filter.mpr ⟨List.mem_of_getElem? (i := 587) (by decide +kernel), by decide +kernel⟩
theorem wd588 : (Jvm.Cond.constantLong "RuleReaderModel" (75 : Nat) (128 : Int64)) ∈ wT := List.mem_filter.mpr ⟨List.mem_of_getElem? (i := 588) (by decide +kernel), by decide +kernel⟩
theorem wd589 : (Jvm.Cond.methodLink "RuleReaderModel" (68 : Nat) ({ cls := "RuleReaderModel", name := "open", desc := "(III)Z" } : Jvm.MethodName)) ∈ wT := List.mem_filter.mpr ⟨List.mem_of_getElem? (i := 589) (by decide +kernel), by decide +kernel⟩
theorem wl590 : (Jvm.Cond.privateMethod ({ cls := "RuleReaderModel", name := "open", desc := "(III)Z" } : Jvm.MethodName)) ∈ lw_tbl := List.mem_of_getElem? (i := 590) (by decide +kernel)
theorem wd591 : (Jvm.Cond.instanceMethod ({ cls := "RuleReaderModel", name := "open", desc := "(III)Z" } : Jvm.MethodName)) ∈ wT := List.mem_filter.mpr ⟨List.mem_of_getElem? (i := 591) (by decide +kernel), by decide +kernel⟩
theorem wd592 : (Jvm.Cond.code ({ cls := "RuleReaderModel", name := "open", desc := "(III)Z" } : Jvm.MethodName) prog_6_method_8_code (4 : Nat) (Option.some Jvm.ClassFile.FieldType.boolean)) ∈ wT := List.mem_filter.mpr ⟨List.mem_of_getElem? (i := 592) (by decide +kernel), by decide +kernel⟩
theorem wd593 : (Jvm.Cond.methodLink "RuleReaderLaw" (79 : Nat) ({ cls := "RuleReaderModel", name := "node", desc := "(II)I" } : Jvm.MethodName)) ∈ wT := List.mem_filter.mpr ⟨List.mem_of_getElem? (i := 593) (by decide +kernel), by decide +kernel⟩
theorem wd594 : (Jvm.Cond.instanceMethod ({ cls := "RuleReaderModel", name := "node", desc := "(II)I" } : Jvm.MethodName)) ∈ wT := List.mem_filter.mpr ⟨List.mem_of_getElem? (i := 594) (by decide +kernel), by decide +kernel⟩
theorem wd595 : (Jvm.Cond.selects "RuleReaderModel" ({ cls := "RuleReaderModel", name := "node", desc := "(II)I" } : Jvm.MethodName) ({ cls := "RuleReaderModel", name := "node", desc := "(II)I" } : Jvm.MethodName)) ∈ wT := List.mem_filter.mpr ⟨List.mem_of_getElem? (i := 595) (by decide +kernel), by decide +kernel⟩
theorem wd596 : (Jvm.Cond.code ({ cls := "RuleReaderModel", name := "node", desc := "(II)I" } : Jvm.MethodName) prog_6_method_12_code (3 : Nat) (Option.some Jvm.ClassFile.FieldType.int)) ∈ wT := List.mem_filter.mpr ⟨List.mem_of_getElem? (i := 596) (by decide +kernel), by decide +kernel⟩
theorem wd597 : (Jvm.Cond.methodLink "RuleReaderModel" (80 : Nat) ({ cls := "RuleReaderModel", name := "out", desc := "(I)Z" } : Jvm.MethodName)) ∈ wT := List.mem_filter.mpr ⟨List.mem_of_getElem? (i := 597) (by decide +kernel), by decide +kernel⟩
theorem wl598 : (Jvm.Cond.privateMethod ({ cls := "RuleReaderModel", name := "out", desc := "(I)Z" } : Jvm.MethodName)) ∈ lw_tbl := List.mem_of_getElem? (i := 598) (by decide +kernel)
theorem wd599 : (Jvm.Cond.instanceMethod ({ cls := "RuleReaderModel", name := "out", desc := "(I)Z" } : Jvm.MethodName)) ∈ wT := List.mem_filter.mpr ⟨List.mem_of_getElem? (i := 599) (by decide +kernel), by decide +kernel⟩
theorem wd600 : (Jvm.Cond.code ({ cls := "RuleReaderModel", name := "out", desc := "(I)Z" } : Jvm.MethodName) prog_6_method_11_code (2 : Nat) (Option.some Jvm.ClassFile.FieldType.boolean)) ∈ wT := List.mem_filter.mpr ⟨List.mem_of_getElem? (i := 600) (by decide +kernel), by decide +kernel⟩
theorem wd601 : (Jvm.Cond.methodLink "RuleReaderLaw" (82 : Nat) ({ cls := "RuleReaderModel", name := "number", desc := "(I)J" } : Jvm.MethodName)) ∈ wT := List.mem_filter.mpr ⟨List.mem_of_getElem? (i := 601) (by decide +kernel), by decide +kernel⟩
theorem wd602 : (Jvm.Cond.instanceMethod ({ cls := "RuleReaderModel", name := "number", desc := "(I)J" } : Jvm.MethodName)) ∈ wT := List.mem_filter.mpr ⟨List.mem_of_getElem? (i := 602) (by decide +kernel), by decide +kernel⟩
theorem wd603 : (Jvm.Cond.selects "RuleReaderModel" ({ cls := "RuleReaderModel", name := "number", desc := "(I)J" } : Jvm.MethodName) ({ cls := "RuleReaderModel", name := "number", desc := "(I)J" } : Jvm.MethodName)) ∈ wT := List.mem_filter.mpr ⟨List.mem_of_getElem? (i := 603) (by decide +kernel), by decide +kernel⟩
theorem wd604 : (Jvm.Cond.code ({ cls := "RuleReaderModel", name := "number", desc := "(I)J" } : Jvm.MethodName) prog_6_method_13_code (7 : Nat) (Option.some Jvm.ClassFile.FieldType.long)) ∈ wT := List.mem_filter.mpr ⟨List.mem_of_getElem? (i := 604) (by decide +kernel), by decide +kernel⟩
theorem wd605 : (Jvm.Cond.methodLink "RuleReaderLaw" (86 : Nat) ({ cls := "RuleReaderModel", name := "wrap", desc := "(IIZ)I" } : Jvm.MethodName)) ∈ wT := List.mem_filter.mpr ⟨List.mem_of_getElem? (i := 605) (by decide +kernel), by decide +kernel⟩
theorem wd606 : (Jvm.Cond.instanceMethod ({ cls := "RuleReaderModel", name := "wrap", desc := "(IIZ)I" } : Jvm.MethodName)) ∈ wT := List.mem_filter.mpr ⟨List.mem_of_getElem? (i := 606) (by decide +kernel), by decide +kernel⟩
theorem wd607 : (Jvm.Cond.selects "RuleReaderModel" ({ cls := "RuleReaderModel", name := "wrap", desc := "(IIZ)I" } : Jvm.MethodName) ({ cls := "RuleReaderModel", name := "wrap", desc := "(IIZ)I" } : Jvm.MethodName)) ∈ wT := List.mem_filter.mpr ⟨List.mem_of_getElem? (i := 607) (by decide +kernel), by decide +kernel⟩
theorem wd608 : (Jvm.Cond.code ({ cls := "RuleReaderModel", name := "wrap", desc := "(IIZ)I" } : Jvm.MethodName) prog_6_method_17_code (6 : Nat) (Option.some Jvm.ClassFile.FieldType.int)) ∈ wT := List.mem_filter.mpr ⟨List.mem_of_getElem? (i := 608) (by decide +kernel), by decide +kernel⟩
theorem wd609 : (Jvm.Cond.methodLink "RuleReaderModel" (84 : Nat) ({ cls := "RuleReaderModel", name := "headSize", desc := "(II)I" } : Jvm.MethodName)) ∈ wT := List.mem_filter.mpr ⟨List.mem_of_getElem? (i := 609) (by decide +kernel), by decide +kernel⟩
theorem wl610 : (Jvm.Cond.privateMethod ({ cls := "RuleReaderModel", name := "headSize", desc := "(II)I" } : Jvm.MethodName)) ∈ lw_tbl := List.mem_of_getElem? (i := 610) (by decide +kernel)
theorem wd611 : (Jvm.Cond.instanceMethod ({ cls := "RuleReaderModel", name := "headSize", desc := "(II)I" } : Jvm.MethodName)) ∈ wT := List.mem_filter.mpr ⟨List.mem_of_getElem? (i := 611) (by decide +kernel), by decide +kernel⟩
theorem wd612 : (Jvm.Cond.code ({ cls := "RuleReaderModel", name := "headSize", desc := "(II)I" } : Jvm.MethodName) prog_6_method_15_code (6 : Nat) (Option.some Jvm.ClassFile.FieldType.int)) ∈ wT := List.mem_filter.mpr ⟨List.mem_of_getElem? (i := 612) (by decide +kernel), by decide +kernel⟩
theorem wd613 : (Jvm.Cond.methodLink "RuleReaderModel" (88 : Nat) ({ cls := "RuleReaderModel", name := "head", desc := "(IIIZI)I" } : Jvm.MethodName)) ∈ wT := List.mem_filter.mpr ⟨List.mem_of_getElem? (i := 613) (by decide +kernel), by decide +kernel⟩
theorem wl614 : (Jvm.Cond.privateMethod ({ cls := "RuleReaderModel", name := "head", desc := "(IIIZI)I" } : Jvm.MethodName)) ∈ lw_tbl := List.mem_of_getElem? (i := 614) (by decide +kernel)
theorem wd615 : (Jvm.Cond.instanceMethod ({ cls := "RuleReaderModel", name := "head", desc := "(IIIZI)I" } : Jvm.MethodName)) ∈ wT := List.mem_filter.mpr ⟨List.mem_of_getElem? (i := 615) (by decide +kernel), by decide +kernel⟩
theorem wd616 : (Jvm.Cond.code ({ cls := "RuleReaderModel", name := "head", desc := "(IIIZI)I" } : Jvm.MethodName) prog_6_method_16_code (11 : Nat) (Option.some Jvm.ClassFile.FieldType.int)) ∈ wT := List.mem_filter.mpr ⟨List.mem_of_getElem? (i := 616) (by decide +kernel), by decide +kernel⟩
theorem wd617 : (Jvm.Cond.methodLink "RuleReaderLaw" (92 : Nat) ({ cls := "RuleReaderModel", name := "add", desc := "(IIJ)I" } : Jvm.MethodName)) ∈ wT := List.mem_filter.mpr ⟨List.mem_of_getElem? (i := 617) (by decide +kernel), by decide +kernel⟩
theorem wd618 : (Jvm.Cond.instanceMethod ({ cls := "RuleReaderModel", name := "add", desc := "(IIJ)I" } : Jvm.MethodName)) ∈ wT := List.mem_filter.mpr ⟨List.mem_of_getElem? (i := 618) (by decide +kernel), by decide +kernel⟩
theorem wd619 : (Jvm.Cond.selects "RuleReaderModel" ({ cls := "RuleReaderModel", name := "add", desc := "(IIJ)I" } : Jvm.MethodName) ({ cls := "RuleReaderModel", name := "add", desc := "(IIJ)I" } : Jvm.MethodName)) ∈ wT := List.mem_filter.mpr ⟨List.mem_of_getElem? (i := 619) (by decide +kernel), by decide +kernel⟩
theorem wd620 : (Jvm.Cond.code ({ cls := "RuleReaderModel", name := "add", desc := "(IIJ)I" } : Jvm.MethodName) prog_6_method_18_code (7 : Nat) (Option.some Jvm.ClassFile.FieldType.int)) ∈ wT := List.mem_filter.mpr ⟨List.mem_of_getElem? (i := 620) (by decide +kernel), by decide +kernel⟩
theorem wd621 : (Jvm.Cond.methodLink "RuleReaderModel" (92 : Nat) ({ cls := "RuleReaderModel", name := "bytesOf", desc := "(J)I" } : Jvm.MethodName)) ∈ wT := List.mem_filter.mpr ⟨List.mem_of_getElem? (i := 621) (by decide +kernel), by decide +kernel⟩
theorem wl622 : (Jvm.Cond.privateMethod ({ cls := "RuleReaderModel", name := "bytesOf", desc := "(J)I" } : Jvm.MethodName)) ∈ lw_tbl := List.mem_of_getElem? (i := 622) (by decide +kernel)
theorem wd623 : (Jvm.Cond.instanceMethod ({ cls := "RuleReaderModel", name := "bytesOf", desc := "(J)I" } : Jvm.MethodName)) ∈ wT := List.mem_filter.mpr ⟨List.mem_of_getElem? (i := 623) (by decide +kernel), by decide +kernel⟩
theorem wd624 : (Jvm.Cond.code ({ cls := "RuleReaderModel", name := "bytesOf", desc := "(J)I" } : Jvm.MethodName) prog_6_method_14_code (4 : Nat) (Option.some Jvm.ClassFile.FieldType.int)) ∈ wT := List.mem_filter.mpr ⟨List.mem_of_getElem? (i := 624) (by decide +kernel), by decide +kernel⟩
theorem wd625 : (Jvm.Cond.methodLink "RuleReaderLaw" (95 : Nat) ({ cls := "RuleReaderModel", name := "compare", desc := "(II)I" } : Jvm.MethodName)) ∈ wT := List.mem_filter.mpr ⟨List.mem_of_getElem? (i := 625) (by decide +kernel), by decide +kernel⟩
theorem wd626 : (Jvm.Cond.instanceMethod ({ cls := "RuleReaderModel", name := "compare", desc := "(II)I" } : Jvm.MethodName)) ∈ wT := List.mem_filter.mpr ⟨List.mem_of_getElem? (i := 626) (by decide +kernel), by decide +kernel⟩
theorem wd627 : (Jvm.Cond.selects "RuleReaderModel" ({ cls := "RuleReaderModel", name := "compare", desc := "(II)I" } : Jvm.MethodName) ({ cls := "RuleReaderModel", name := "compare", desc := "(II)I" } : Jvm.MethodName)) ∈ wT := List.mem_filter.mpr ⟨List.mem_of_getElem? (i := 627) (by decide +kernel), by decide +kernel⟩
theorem wd628 : (Jvm.Cond.code ({ cls := "RuleReaderModel", name := "compare", desc := "(II)I" } : Jvm.MethodName) prog_6_method_19_code (6 : Nat) (Option.some Jvm.ClassFile.FieldType.int)) ∈ wT := List.mem_filter.mpr ⟨List.mem_of_getElem? (i := 628) (by decide +kernel), by decide +kernel⟩
theorem wd629 : (Jvm.Cond.methodLink "RuleReaderLaw" (98 : Nat) ({ cls := "RuleReaderModel", name := "count", desc := "(I)I" } : Jvm.MethodName)) ∈ wT := List.mem_filter.mpr ⟨List.mem_of_getElem? (i := 629) (by decide +kernel), by decide +kernel⟩
theorem wd630 : (Jvm.Cond.instanceMethod ({ cls := "RuleReaderModel", name := "count", desc := "(I)I" } : Jvm.MethodName)) ∈ wT := List.mem_filter.mpr ⟨List.mem_of_getElem? (i := 630) (by decide +kernel), by decide +kernel⟩
theorem wd631 : (Jvm.Cond.selects "RuleReaderModel" ({ cls := "RuleReaderModel", name := "count", desc := "(I)I" } : Jvm.MethodName) ({ cls := "RuleReaderModel", name := "count", desc := "(I)I" } : Jvm.MethodName)) ∈ wT := List.mem_filter.mpr ⟨List.mem_of_getElem? (i := 631) (by decide +kernel), by decide +kernel⟩
theorem wd632 : (Jvm.Cond.code ({ cls := "RuleReaderModel", name := "count", desc := "(I)I" } : Jvm.MethodName) prog_6_method_20_code (2 : Nat) (Option.some Jvm.ClassFile.FieldType.int)) ∈ wT := List.mem_filter.mpr ⟨List.mem_of_getElem? (i := 632) (by decide +kernel), by decide +kernel⟩
theorem wd633 : (Jvm.Cond.methodLink "RuleReaderLaw" (101 : Nat) ({ cls := "RuleReaderModel", name := "word", desc := "(I)J" } : Jvm.MethodName)) ∈ wT := List.mem_filter.mpr ⟨List.mem_of_getElem? (i := 633) (by decide +kernel), by decide +kernel⟩
theorem wd634 : (Jvm.Cond.instanceMethod ({ cls := "RuleReaderModel", name := "word", desc := "(I)J" } : Jvm.MethodName)) ∈ wT := List.mem_filter.mpr ⟨List.mem_of_getElem? (i := 634) (by decide +kernel), by decide +kernel⟩
theorem wd635 : (Jvm.Cond.selects "RuleReaderModel" ({ cls := "RuleReaderModel", name := "word", desc := "(I)J" } : Jvm.MethodName) ({ cls := "RuleReaderModel", name := "word", desc := "(I)J" } : Jvm.MethodName)) ∈ wT := List.mem_filter.mpr ⟨List.mem_of_getElem? (i := 635) (by decide +kernel), by decide +kernel⟩
theorem wd636 : (Jvm.Cond.code ({ cls := "RuleReaderModel", name := "word", desc := "(I)J" } : Jvm.MethodName) prog_6_method_21_code (5 : Nat) (Option.some Jvm.ClassFile.FieldType.long)) ∈ wT := List.mem_filter.mpr ⟨List.mem_of_getElem? (i := 636) (by decide +kernel), by decide +kernel⟩
theorem wd637 : (Jvm.Cond.constantLong "RuleReaderModel" (96 : Nat) (256 : Int64)) ∈ wT := List.mem_filter.mpr ⟨List.mem_of_getElem? (i := 637) (by decide +kernel), by decide +kernel⟩
theorem wd638 : (Jvm.Cond.constantLong "RuleReaderLaw" (87 : Nat) (4294967295 : Int64)) ∈ wT := List.mem_filter.mpr ⟨List.mem_of_getElem? (i := 638) (by decide +kernel), by decide +kernel⟩
theorem wd639 : (Jvm.Cond.arrayClass Jvm.ClassFile.FieldType.long) ∈ wT := List.mem_filter.mpr ⟨List.mem_of_getElem? (i := 639) (by decide +kernel), by decide +kernel⟩
theorem wd640 : (Jvm.Cond.sameMethod "java/lang/Throwable" "java/lang/Throwable" "fillInStackTrace" "(I)Ljava/lang/Throwable;") ∈ wT := List.mem_filter.mpr ⟨List.mem_of_getElem? (i := 640) (by decide +kernel), by decide +kernel⟩
def RX0 : String := "RuleReader$Bytes"
def TX0 : u_T := fun k => match k with
  | 0 => ("RuleReader$Bytes", "row", "[B", false)
  | _ => ("RuleReader$Bytes", "length", "I", false)
def tyX0 : Nat → FieldType := fun k => match k with
  | 0 => .array .byte
  | _ => .int
theorem nX0 : ∀ a, a < 2 → ∀ b, b < 2 → a ≠ b → (TX0 a).2.1 ≠ (TX0 b).2.1 := by decide +kernel
theorem tyX0_ok : ∀ k, k < 2 → parseFieldDescriptor (TX0 k).2.2.1 = some (tyX0 k) := by decide +kernel
theorem inX0 : ∀ w ∈ u_ws RX0 TX0 2, w ∈ wT := by decide +kernel
def RX1 : String := "RuleReader$Header"
def TX1 : u_T := fun k => match k with
  | 0 => ("RuleReader$Header", "kind", "I", false)
  | 1 => ("RuleReader$Header", "constructed", "Z", false)
  | 2 => ("RuleReader$Header", "tag", "I", false)
  | 3 => ("RuleReader$Header", "open", "Z", false)
  | 4 => ("RuleReader$Header", "size", "I", false)
  | _ => ("RuleReader$Header", "contents", "I", false)
def tyX1 : Nat → FieldType := fun k => match k with
  | 0 => .int
  | 1 => .boolean
  | 2 => .int
  | 3 => .boolean
  | 4 => .int
  | _ => .int
theorem nX1 : ∀ a, a < 6 → ∀ b, b < 6 → a ≠ b → (TX1 a).2.1 ≠ (TX1 b).2.1 := by decide +kernel
theorem tyX1_ok : ∀ k, k < 6 → parseFieldDescriptor (TX1 k).2.2.1 = some (tyX1 k) := by decide +kernel
theorem inX1 : ∀ w ∈ u_ws RX1 TX1 6, w ∈ wT := by decide +kernel
def RX2 : String := "RuleReader$Nodes"
def TX2 : u_T := fun k => match k with
  | 0 => ("RuleReader$Nodes", "bytes", "LRuleReader$Bytes;", true)
  | 1 => ("RuleReader$Nodes", "header", "LRuleReader$Header;", true)
  | 2 => ("RuleReader$Nodes", "rows", "[I", false)
  | 3 => ("RuleReader$Nodes", "many", "I", false)
  | _ => ("RuleReader$Nodes", "strict", "Z", false)
def tyX2 : Nat → FieldType := fun k => match k with
  | 0 => .object "RuleReader$Bytes"
  | 1 => .object "RuleReader$Header"
  | 2 => .array .int
  | 3 => .int
  | _ => .boolean
theorem nX2 : ∀ a, a < 5 → ∀ b, b < 5 → a ≠ b → (TX2 a).2.1 ≠ (TX2 b).2.1 := by decide +kernel
theorem tyX2_ok : ∀ k, k < 5 → parseFieldDescriptor (TX2 k).2.2.1 = some (tyX2 k) := by decide +kernel
theorem inX2 : ∀ w ∈ u_ws RX2 TX2 5, w ∈ wT := by decide +kernel
def RX3 : String := "RuleReader"
def TX3 : u_T := fun k => match k with
  | 0 => ("RuleReader", "tape", "LRuleReader$Bytes;", true)
  | 1 => ("RuleReader", "piece", "LRuleReader$Bytes;", true)
  | 2 => ("RuleReader", "nodes", "LRuleReader$Nodes;", false)
  | _ => ("RuleReader", "spare", "LRuleReader$Nodes;", false)
def tyX3 : Nat → FieldType := fun k => match k with
  | 0 => .object "RuleReader$Bytes"
  | 1 => .object "RuleReader$Bytes"
  | 2 => .object "RuleReader$Nodes"
  | _ => .object "RuleReader$Nodes"
theorem nX3 : ∀ a, a < 4 → ∀ b, b < 4 → a ≠ b → (TX3 a).2.1 ≠ (TX3 b).2.1 := by decide +kernel
theorem tyX3_ok : ∀ k, k < 4 → parseFieldDescriptor (TX3 k).2.2.1 = some (tyX3 k) := by decide +kernel
theorem inX3 : ∀ w ∈ u_ws RX3 TX3 4, w ∈ wT := by decide +kernel
def RX4 : String := "RuleReaderModel"
def TX4 : u_T := fun k => match k with
  | 0 => ("RuleReaderModel", "failed", "I", false)
  | 1 => ("RuleReaderModel", "tape", "[B", true)
  | 2 => ("RuleReaderModel", "taped", "I", false)
  | 3 => ("RuleReaderModel", "kept", "[B", true)
  | 4 => ("RuleReaderModel", "nodes", "I", false)
  | 5 => ("RuleReaderModel", "told", "[I", true)
  | 6 => ("RuleReaderModel", "trial", "[I", true)
  | 7 => ("RuleReaderModel", "at", "I", false)
  | 8 => ("RuleReaderModel", "made", "I", false)
  | _ => ("RuleReaderModel", "strict", "Z", false)
def tyX4 : Nat → FieldType := fun k => match k with
  | 0 => .int
  | 1 => .array .byte
  | 2 => .int
  | 3 => .array .byte
  | 4 => .int
  | 5 => .array .int
  | 6 => .array .int
  | 7 => .int
  | 8 => .int
  | _ => .boolean
theorem nX4 : ∀ a, a < 10 → ∀ b, b < 10 → a ≠ b → (TX4 a).2.1 ≠ (TX4 b).2.1 := by decide +kernel
theorem tyX4_ok : ∀ k, k < 10 → parseFieldDescriptor (TX4 k).2.2.1 = some (tyX4 k) := by decide +kernel
theorem inX4 : ∀ w ∈ u_ws RX4 TX4 10, w ∈ wT := by decide +kernel
def RL : String := "RuleReaderLaw"
def RJA : String := "java/util/Arrays"
def RJI : String := "java/lang/Integer"
abbrev vwCl : List vw_C := [(RX0, TX0, 2), (RX1, TX1, 6), (RX2, TX2, 5), (RX3, TX3, 4), (RX4, TX4, 10)]
abbrev cX3_init : ByteArray := prog_1_method_1_code
def yX3_init : MethodName := ⟨RX3, "<init>", "()V"⟩
def wsX3_init : List Cond := .code yX3_init cX3_init 1 none :: wT
abbrev cX0_init : ByteArray := prog_2_method_1_code
def yX0_init : MethodName := ⟨RX0, "<init>", "()V"⟩
def wsX0_init : List Cond := .code yX0_init cX0_init 1 none :: wT
abbrev cX2_init : ByteArray := prog_4_method_1_code
def yX2_init : MethodName := ⟨RX2, "<init>", "()V"⟩
def wsX2_init : List Cond := .code yX2_init cX2_init 1 none :: wT
abbrev cX1_init : ByteArray := prog_3_method_1_code
def yX1_init : MethodName := ⟨RX1, "<init>", "()V"⟩
def wsX1_init : List Cond := .code yX1_init cX1_init 1 none :: wT
abbrev cL_feed : ByteArray := method_3_code
def yL_feed : MethodName := ⟨RL, "feed", "(LRuleReader;IIIII[J)I"⟩
def wsL_feed : List Cond := .codeWith yL_feed cL_feed 8 (some .int) [(0, 16, 19, 13)] :: wT
abbrev cX3_feed : ByteArray := prog_1_method_2_code
def yX3_feed : MethodName := ⟨RX3, "feed", "(IIIII)I"⟩
def wsX3_feed : List Cond := .code yX3_feed cX3_feed 6 (some .int) :: wT
abbrev cX0_hasRoomFor : ByteArray := prog_2_method_3_code
def yX0_hasRoomFor : MethodName := ⟨RX0, "hasRoomFor", "(I)Z"⟩
def wsX0_hasRoomFor : List Cond := .code yX0_hasRoomFor cX0_hasRoomFor 2 (some .boolean) :: wT
abbrev cX0_appendNumber : ByteArray := prog_2_method_7_code
def yX0_appendNumber : MethodName := ⟨RX0, "appendNumber", "(JI)V"⟩
def wsX0_appendNumber : List Cond := .code yX0_appendNumber cX0_appendNumber 5 none :: wT
abbrev cX0_append : ByteArray := prog_2_method_6_code
def yX0_append : MethodName := ⟨RX0, "append", "(I)V"⟩
def wsX0_append : List Cond := .code yX0_append cX0_append 2 none :: wT
abbrev cX0_lengthen : ByteArray := prog_2_method_13_code
def yX0_lengthen : MethodName := ⟨RX0, "lengthen", "(I)V"⟩
def wsX0_lengthen : List Cond := .code yX0_lengthen cX0_lengthen 3 none :: wT
abbrev cJA_copyB : ByteArray := prog_19_method_121_code
def yJA_copyB : MethodName := ⟨RJA, "copyOf", "([BI)[B"⟩
def wsJA_copyB : List Cond := .code yJA_copyB cJA_copyB 3 (some (.array .byte)) :: wT
abbrev cX0_set : ByteArray := prog_2_method_12_code
def yX0_set : MethodName := ⟨RX0, "set", "(II)V"⟩
def wsX0_set : List Cond := .code yX0_set cX0_set 3 none :: wT
abbrev cX0_size : ByteArray := prog_2_method_2_code
def yX0_size : MethodName := ⟨RX0, "size", "()I"⟩
def wsX0_size : List Cond := .code yX0_size cX0_size 1 (some .int) :: wT
abbrev cL_end : ByteArray := method_4_code
def yL_end : MethodName := ⟨RL, "end", "(LRuleReader;I[J)I"⟩
def wsL_end : List Cond := .codeWith yL_end cL_end 4 (some .int) [(0, 9, 12, 19)] :: wT
abbrev cX3_end : ByteArray := prog_1_method_3_code
def yX3_end : MethodName := ⟨RX3, "end", "(I)I"⟩
def wsX3_end : List Cond := .code yX3_end cX3_end 2 (some .int) :: wT
abbrev cX0_cut : ByteArray := prog_2_method_5_code
def yX0_cut : MethodName := ⟨RX0, "cut", "(I)V"⟩
def wsX0_cut : List Cond := .code yX0_cut cX0_cut 2 none :: wT
abbrev cL_read : ByteArray := method_5_code
def yL_read : MethodName := ⟨RL, "read", "(LRuleReader;Z[J)I"⟩
def wsL_read : List Cond := .codeWith yL_read cL_read 4 (some .int) [(0, 9, 12, 25)] :: wT
abbrev cX3_read : ByteArray := prog_1_method_4_code
def yX3_read : MethodName := ⟨RX3, "read", "(Z)I"⟩
def wsX3_read : List Cond := .code yX3_read cX3_read 3 (some .int) :: wT
abbrev cX2_layOut : ByteArray := prog_4_method_5_code
def yX2_layOut : MethodName := ⟨RX2, "layOut", "(LRuleReader$Bytes;Z)Z"⟩
def wsX2_layOut : List Cond := .code yX2_layOut cX2_layOut 4 (some .boolean) :: wT
abbrev cX0_become : ByteArray := prog_2_method_10_code
def yX0_become : MethodName := ⟨RX0, "become", "(LRuleReader$Bytes;)V"⟩
def wsX0_become : List Cond := .code yX0_become cX0_become 2 none :: wT
abbrev cX0_putBehind : ByteArray := prog_2_method_8_code
def yX0_putBehind : MethodName := ⟨RX0, "putBehind", "(LRuleReader$Bytes;)V"⟩
def wsX0_putBehind : List Cond := .code yX0_putBehind cX0_putBehind 3 none :: wT
abbrev cX0_layOver : ByteArray := prog_2_method_11_code
def yX0_layOver : MethodName := ⟨RX0, "layOver", "([BII)V"⟩
def wsX0_layOver : List Cond := .code yX0_layOver cX0_layOver 4 none :: wT
abbrev cX2_layOutValue : ByteArray := prog_4_method_12_code
def yX2_layOutValue : MethodName := ⟨RX2, "layOutValue", "(IIII)I"⟩
def wsX2_layOutValue : List Cond := .code yX2_layOutValue cX2_layOutValue 8 (some .int) :: wT
abbrev cX1_decode : ByteArray := prog_3_method_2_code
def yX1_decode : MethodName := ⟨RX1, "decode", "(LRuleReader$Bytes;IIZ)Z"⟩
def wsX1_decode : List Cond := .code yX1_decode cX1_decode 7 (some .boolean) :: wT
abbrev cX1_decodeIdentifier : ByteArray := prog_3_method_3_code
def yX1_decodeIdentifier : MethodName := ⟨RX1, "decodeIdentifier", "(LRuleReader$Bytes;II)I"⟩
def wsX1_decodeIdentifier : List Cond := .code yX1_decodeIdentifier cX1_decodeIdentifier 5 (some .int) :: wT
abbrev cX0_at : ByteArray := prog_2_method_4_code
def yX0_at : MethodName := ⟨RX0, "at", "(I)I"⟩
def wsX0_at : List Cond := .code yX0_at cX0_at 2 (some .int) :: wT
abbrev cX1_decodeLongNumber : ByteArray := prog_3_method_4_code
def yX1_decodeLongNumber : MethodName := ⟨RX1, "decodeLongNumber", "(LRuleReader$Bytes;II)I"⟩
def wsX1_decodeLongNumber : List Cond := .code yX1_decodeLongNumber cX1_decodeLongNumber 8 (some .int) :: wT
abbrev cX1_decodeLongLength : ByteArray := prog_3_method_5_code
def yX1_decodeLongLength : MethodName := ⟨RX1, "decodeLongLength", "(LRuleReader$Bytes;IIZ)Z"⟩
def wsX1_decodeLongLength : List Cond := .code yX1_decodeLongLength cX1_decodeLongLength 7 (some .boolean) :: wT
abbrev cX2_enter : ByteArray := prog_4_method_15_code
def yX2_enter : MethodName := ⟨RX2, "enter", "(II)I"⟩
def wsX2_enter : List Cond := .code yX2_enter cX2_enter 4 (some .int) :: wT
abbrev cJA_copyI : ByteArray := prog_19_method_123_code
def yJA_copyI : MethodName := ⟨RJA, "copyOf", "([II)[I"⟩
def wsJA_copyI : List Cond := .code yJA_copyI cJA_copyI 3 (some (.array .int)) :: wT
abbrev cX2_put : ByteArray := prog_4_method_11_code
def yX2_put : MethodName := ⟨RX2, "put", "(III)V"⟩
def wsX2_put : List Cond := .code yX2_put cX2_put 5 none :: wT
abbrev cX2_indexOf : ByteArray := prog_4_method_10_code
def yX2_indexOf : MethodName := ⟨RX2, "indexOf", "(II)I"⟩
def wsX2_indexOf : List Cond := .code yX2_indexOf cX2_indexOf 3 (some .int) :: wT
abbrev cX2_has : ByteArray := prog_4_method_3_code
def yX2_has : MethodName := ⟨RX2, "has", "(I)Z"⟩
def wsX2_has : List Cond := .code yX2_has cX2_has 2 (some .boolean) :: wT
abbrev cX2_get : ByteArray := prog_4_method_4_code
def yX2_get : MethodName := ⟨RX2, "get", "(II)I"⟩
def wsX2_get : List Cond := .code yX2_get cX2_get 4 (some .int) :: wT
abbrev cX2_layOutUpToZeros : ByteArray := prog_4_method_14_code
def yX2_layOutUpToZeros : MethodName := ⟨RX2, "layOutUpToZeros", "(IIII)I"⟩
def wsX2_layOutUpToZeros : List Cond := .code yX2_layOutUpToZeros cX2_layOutUpToZeros 7 (some .int) :: wT
abbrev cX2_layOutUpTo : ByteArray := prog_4_method_13_code
def yX2_layOutUpTo : MethodName := ⟨RX2, "layOutUpTo", "(IIII)Z"⟩
def wsX2_layOutUpTo : List Cond := .code yX2_layOutUpTo cX2_layOutUpTo 7 (some .boolean) :: wT
abbrev cX2_size : ByteArray := prog_4_method_2_code
def yX2_size : MethodName := ⟨RX2, "size", "()I"⟩
def wsX2_size : List Cond := .code yX2_size cX2_size 1 (some .int) :: wT
abbrev cL_node : ByteArray := method_6_code
def yL_node : MethodName := ⟨RL, "node", "(LRuleReader;II[J)I"⟩
def wsL_node : List Cond := .codeWith yL_node cL_node 5 (some .int) [(0, 10, 13, 19)] :: wT
abbrev cX3_node : ByteArray := prog_1_method_5_code
def yX3_node : MethodName := ⟨RX3, "node", "(II)I"⟩
def wsX3_node : List Cond := .code yX3_node cX3_node 3 (some .int) :: wT
abbrev cL_number : ByteArray := method_7_code
def yL_number : MethodName := ⟨RL, "number", "(LRuleReader;I[J)I"⟩
def wsL_number : List Cond := .codeWith yL_number cL_number 4 (some .int) [(0, 8, 11, 19), (0, 8, 14, 25), (0, 8, 17, 35)] :: wT
abbrev cX3_number : ByteArray := prog_1_method_6_code
def yX3_number : MethodName := ⟨RX3, "number", "(I)J"⟩
def wsX3_number : List Cond := .code yX3_number cX3_number 2 (some .long) :: wT
abbrev cX2_holdsNumber : ByteArray := prog_4_method_6_code
def yX2_holdsNumber : MethodName := ⟨RX2, "holdsNumber", "(I)Z"⟩
def wsX2_holdsNumber : List Cond := .code yX2_holdsNumber cX2_holdsNumber 4 (some .boolean) :: wT
abbrev cX2_contentsAt : ByteArray := prog_4_method_9_code
def yX2_contentsAt : MethodName := ⟨RX2, "contentsAt", "(II)I"⟩
def wsX2_contentsAt : List Cond := .code yX2_contentsAt cX2_contentsAt 3 (some .int) :: wT
abbrev cX2_signedContents : ByteArray := prog_4_method_7_code
def yX2_signedContents : MethodName := ⟨RX2, "signedContents", "(I)J"⟩
def wsX2_signedContents : List Cond := .code yX2_signedContents cX2_signedContents 6 (some .long) :: wT
abbrev cL_wrap : ByteArray := method_8_code
def yL_wrap : MethodName := ⟨RL, "wrap", "(LRuleReader;IIZ[J)I"⟩
def wsL_wrap : List Cond := .codeWith yL_wrap cL_wrap 6 (some .int) [(0, 12, 15, 19), (0, 12, 19, 13)] :: wT
abbrev cX3_wrap : ByteArray := prog_1_method_7_code
def yX3_wrap : MethodName := ⟨RX3, "wrap", "(IIZ)I"⟩
def wsX3_wrap : List Cond := .code yX3_wrap cX3_wrap 4 (some .int) :: wT
abbrev cX3_isIdentifier : ByteArray := prog_1_method_12_code
def yX3_isIdentifier : MethodName := ⟨RX3, "isIdentifier", "(II)Z"⟩
def wsX3_isIdentifier : List Cond := .code yX3_isIdentifier cX3_isIdentifier 2 (some .boolean) :: wT
abbrev cX3_writeIdentifier : ByteArray := prog_1_method_13_code
def yX3_writeIdentifier : MethodName := ⟨RX3, "writeIdentifier", "(IIZ)V"⟩
def wsX3_writeIdentifier : List Cond := .code yX3_writeIdentifier cX3_writeIdentifier 6 none :: wT
abbrev cX3_writeLength : ByteArray := prog_1_method_14_code
def yX3_writeLength : MethodName := ⟨RX3, "writeLength", "(I)V"⟩
def wsX3_writeLength : List Cond := .code yX3_writeLength cX3_writeLength 2 none :: wT
abbrev cX0_putInFront : ByteArray := prog_2_method_9_code
def yX0_putInFront : MethodName := ⟨RX0, "putInFront", "(LRuleReader$Bytes;)V"⟩
def wsX0_putInFront : List Cond := .code yX0_putInFront cX0_putInFront 4 none :: wT
abbrev cL_add : ByteArray := method_9_code
def yL_add : MethodName := ⟨RL, "add", "(LRuleReader;IIJ[J)I"⟩
def wsL_add : List Cond := .codeWith yL_add cL_add 7 (some .int) [(0, 12, 15, 19), (0, 12, 19, 13)] :: wT
abbrev cX3_add : ByteArray := prog_1_method_8_code
def yX3_add : MethodName := ⟨RX3, "add", "(IIJ)I"⟩
def wsX3_add : List Cond := .code yX3_add cX3_add 6 (some .int) :: wT
abbrev cX3_fewestBytes : ByteArray := prog_1_method_15_code
def yX3_fewestBytes : MethodName := ⟨RX3, "fewestBytes", "(J)I"⟩
def wsX3_fewestBytes : List Cond := .code yX3_fewestBytes cX3_fewestBytes 5 (some .int) :: wT
abbrev cL_compare : ByteArray := method_10_code
def yL_compare : MethodName := ⟨RL, "compare", "(LRuleReader;II[J)I"⟩
def wsL_compare : List Cond := .codeWith yL_compare cL_compare 5 (some .int) [(0, 10, 13, 19)] :: wT
abbrev cX3_compare : ByteArray := prog_1_method_9_code
def yX3_compare : MethodName := ⟨RX3, "compare", "(II)I"⟩
def wsX3_compare : List Cond := .code yX3_compare cX3_compare 3 (some .int) :: wT
abbrev cX2_orderOf : ByteArray := prog_4_method_8_code
def yX2_orderOf : MethodName := ⟨RX2, "orderOf", "(II)I"⟩
def wsX2_orderOf : List Cond := .code yX2_orderOf cX2_orderOf 6 (some .int) :: wT
abbrev cJI_compare : ByteArray := prog_12_method_40_code
def yJI_compare : MethodName := ⟨RJI, "compare", "(II)I"⟩
def wsJI_compare : List Cond := .code yJI_compare cJI_compare 2 (some .int) :: wT
abbrev cL_count : ByteArray := method_11_code
def yL_count : MethodName := ⟨RL, "count", "(LRuleReader;I[J)I"⟩
def wsL_count : List Cond := .codeWith yL_count cL_count 4 (some .int) [(0, 9, 12, 19)] :: wT
abbrev cX3_count : ByteArray := prog_1_method_10_code
def yX3_count : MethodName := ⟨RX3, "count", "(I)I"⟩
def wsX3_count : List Cond := .code yX3_count cX3_count 2 (some .int) :: wT
abbrev cL_word : ByteArray := method_12_code
def yL_word : MethodName := ⟨RL, "word", "(LRuleReader;I[J)I"⟩
def wsL_word : List Cond := .codeWith yL_word cL_word 4 (some .int) [(0, 8, 11, 13)] :: wT
abbrev cX3_word : ByteArray := prog_1_method_11_code
def yX3_word : MethodName := ⟨RX3, "word", "(I)J"⟩
def wsX3_word : List Cond := .code yX3_word cX3_word 5 (some .long) :: wT
abbrev cX4_init : ByteArray := prog_6_method_1_code
def yX4_init : MethodName := ⟨RX4, "<init>", "()V"⟩
def wsX4_init : List Cond := .code yX4_init cX4_init 1 none :: wT
abbrev cX4_thrown : ByteArray := prog_6_method_2_code
def yX4_thrown : MethodName := ⟨RX4, "thrown", "()I"⟩
def wsX4_thrown : List Cond := .code yX4_thrown cX4_thrown 1 (some .int) :: wT
abbrev cX4_feed : ByteArray := prog_6_method_4_code
def yX4_feed : MethodName := ⟨RX4, "feed", "(IIIII)I"⟩
def wsX4_feed : List Cond := .code yX4_feed cX4_feed 8 (some .int) :: wT
abbrev cX4_fail : ByteArray := prog_6_method_3_code
def yX4_fail : MethodName := ⟨RX4, "fail", "(I)I"⟩
def wsX4_fail : List Cond := .code yX4_fail cX4_fail 2 (some .int) :: wT
abbrev cX4_end : ByteArray := prog_6_method_5_code
def yX4_end : MethodName := ⟨RX4, "end", "(I)I"⟩
def wsX4_end : List Cond := .code yX4_end cX4_end 2 (some .int) :: wT
abbrev cX4_read : ByteArray := prog_6_method_10_code
def yX4_read : MethodName := ⟨RX4, "read", "(Z)I"⟩
def wsX4_read : List Cond := .code yX4_read cX4_read 3 (some .int) :: wT
abbrev cX4_value : ByteArray := prog_6_method_7_code
def yX4_value : MethodName := ⟨RX4, "value", "(III)Z"⟩
def wsX4_value : List Cond := .code yX4_value cX4_value 11 (some .boolean) :: wT
abbrev cX4_next : ByteArray := prog_6_method_6_code
def yX4_next : MethodName := ⟨RX4, "next", "()I"⟩
def wsX4_next : List Cond := .code yX4_next cX4_next 2 (some .int) :: wT
abbrev cX4_length : ByteArray := prog_6_method_9_code
def yX4_length : MethodName := ⟨RX4, "length", "()J"⟩
def wsX4_length : List Cond := .code yX4_length cX4_length 6 (some .long) :: wT
abbrev cX4_open : ByteArray := prog_6_method_8_code
def yX4_open : MethodName := ⟨RX4, "open", "(III)Z"⟩
def wsX4_open : List Cond := .code yX4_open cX4_open 4 (some .boolean) :: wT
abbrev cX4_node : ByteArray := prog_6_method_12_code
def yX4_node : MethodName := ⟨RX4, "node", "(II)I"⟩
def wsX4_node : List Cond := .code yX4_node cX4_node 3 (some .int) :: wT
abbrev cX4_out : ByteArray := prog_6_method_11_code
def yX4_out : MethodName := ⟨RX4, "out", "(I)Z"⟩
def wsX4_out : List Cond := .code yX4_out cX4_out 2 (some .boolean) :: wT
abbrev cX4_number : ByteArray := prog_6_method_13_code
def yX4_number : MethodName := ⟨RX4, "number", "(I)J"⟩
def wsX4_number : List Cond := .code yX4_number cX4_number 7 (some .long) :: wT
abbrev cX4_wrap : ByteArray := prog_6_method_17_code
def yX4_wrap : MethodName := ⟨RX4, "wrap", "(IIZ)I"⟩
def wsX4_wrap : List Cond := .code yX4_wrap cX4_wrap 6 (some .int) :: wT
abbrev cX4_headSize : ByteArray := prog_6_method_15_code
def yX4_headSize : MethodName := ⟨RX4, "headSize", "(II)I"⟩
def wsX4_headSize : List Cond := .code yX4_headSize cX4_headSize 6 (some .int) :: wT
abbrev cX4_head : ByteArray := prog_6_method_16_code
def yX4_head : MethodName := ⟨RX4, "head", "(IIIZI)I"⟩
def wsX4_head : List Cond := .code yX4_head cX4_head 11 (some .int) :: wT
abbrev cX4_add : ByteArray := prog_6_method_18_code
def yX4_add : MethodName := ⟨RX4, "add", "(IIJ)I"⟩
def wsX4_add : List Cond := .code yX4_add cX4_add 7 (some .int) :: wT
abbrev cX4_bytesOf : ByteArray := prog_6_method_14_code
def yX4_bytesOf : MethodName := ⟨RX4, "bytesOf", "(J)I"⟩
def wsX4_bytesOf : List Cond := .code yX4_bytesOf cX4_bytesOf 4 (some .int) :: wT
abbrev cX4_compare : ByteArray := prog_6_method_19_code
def yX4_compare : MethodName := ⟨RX4, "compare", "(II)I"⟩
def wsX4_compare : List Cond := .code yX4_compare cX4_compare 6 (some .int) :: wT
abbrev cX4_count : ByteArray := prog_6_method_20_code
def yX4_count : MethodName := ⟨RX4, "count", "(I)I"⟩
def wsX4_count : List Cond := .code yX4_count cX4_count 2 (some .int) :: wT
abbrev cX4_word : ByteArray := prog_6_method_21_code
def yX4_word : MethodName := ⟨RX4, "word", "(I)J"⟩
def wsX4_word : List Cond := .code yX4_word cX4_word 5 (some .long) :: wT
abbrev cL_law : ByteArray := code
def yL_law : MethodName := ⟨RL, "law", "([I)Z"⟩
end
section
theorem dX0_init_0 : decode cX0_init 0 = .ok (.aload_n 0, 1) := by decide +kernel
theorem dX0_init_1 : decode cX0_init 1 = .ok (.invokespecial 3, 3) := by decide +kernel
theorem dX0_init_4 : decode cX0_init 4 = .ok (.aload_n 0, 1) := by decide +kernel
theorem dX0_init_5 : decode cX0_init 5 = .ok (.bipush 64, 2) := by decide +kernel
theorem dX0_init_7 : decode cX0_init 7 = .ok (.newarray .byte, 2) := by decide +kernel
theorem dX0_init_9 : decode cX0_init 9 = .ok (.putfield 9, 3) := by decide +kernel
theorem dX0_init_12 : decode cX0_init 12 = .ok (.aload_n 0, 1) := by decide +kernel
theorem dX0_init_13 : decode cX0_init 13 = .ok (.iconst 0, 1) := by decide +kernel
theorem dX0_init_14 : decode cX0_init 14 = .ok (.putfield 15, 3) := by decide +kernel
theorem dX0_init_17 : decode cX0_init 17 = .ok (.return_, 1) := by decide +kernel
theorem dX0_hasRoomFor_0 : decode cX0_hasRoomFor 0 = .ok (.iload_n 1, 1) := by decide +kernel
theorem dX0_hasRoomFor_1 : decode cX0_hasRoomFor 1 = .ok (.ifCond .lt 19, 3) := by decide +kernel
theorem dX0_hasRoomFor_4 : decode cX0_hasRoomFor 4 = .ok (.iload_n 1, 1) := by decide +kernel
theorem dX0_hasRoomFor_5 : decode cX0_hasRoomFor 5 = .ok (.sipush 4096, 3) := by decide +kernel
theorem dX0_hasRoomFor_8 : decode cX0_hasRoomFor 8 = .ok (.aload_n 0, 1) := by decide +kernel
theorem dX0_hasRoomFor_9 : decode cX0_hasRoomFor 9 = .ok (.getfield 15, 3) := by decide +kernel
theorem dX0_hasRoomFor_12 : decode cX0_hasRoomFor 12 = .ok (.isub, 1) := by decide +kernel
theorem dX0_hasRoomFor_13 : decode cX0_hasRoomFor 13 = .ok (.if_icmp .gt 7, 3) := by decide +kernel
theorem dX0_hasRoomFor_16 : decode cX0_hasRoomFor 16 = .ok (.iconst 1, 1) := by decide +kernel
theorem dX0_hasRoomFor_17 : decode cX0_hasRoomFor 17 = .ok (.goto 4, 3) := by decide +kernel
theorem dX0_hasRoomFor_20 : decode cX0_hasRoomFor 20 = .ok (.iconst 0, 1) := by decide +kernel
theorem dX0_hasRoomFor_21 : decode cX0_hasRoomFor 21 = .ok (.ireturn, 1) := by decide +kernel
theorem dX0_appendNumber_0 : decode cX0_appendNumber 0 = .ok (.iload_n 3, 1) := by decide +kernel
theorem dX0_appendNumber_1 : decode cX0_appendNumber 1 = .ok (.bipush 8, 2) := by decide +kernel
theorem dX0_appendNumber_3 : decode cX0_appendNumber 3 = .ok (.invokestatic 31, 3) := by decide +kernel
theorem dX0_appendNumber_6 : decode cX0_appendNumber 6 = .ok (.iconst 1, 1) := by decide +kernel
theorem dX0_appendNumber_7 : decode cX0_appendNumber 7 = .ok (.isub, 1) := by decide +kernel
theorem dX0_appendNumber_8 : decode cX0_appendNumber 8 = .ok (.istore 4, 2) := by decide +kernel
theorem dX0_appendNumber_10 : decode cX0_appendNumber 10 = .ok (.iload 4, 2) := by decide +kernel
theorem dX0_appendNumber_12 : decode cX0_appendNumber 12 = .ok (.ifCond .lt 25, 3) := by decide +kernel
theorem dX0_appendNumber_15 : decode cX0_appendNumber 15 = .ok (.aload_n 0, 1) := by decide +kernel
theorem dX0_appendNumber_16 : decode cX0_appendNumber 16 = .ok (.lload_n 1, 1) := by decide +kernel
theorem dX0_appendNumber_17 : decode cX0_appendNumber 17 = .ok (.bipush 8, 2) := by decide +kernel
theorem dX0_appendNumber_19 : decode cX0_appendNumber 19 = .ok (.iload 4, 2) := by decide +kernel
theorem dX0_appendNumber_21 : decode cX0_appendNumber 21 = .ok (.imul, 1) := by decide +kernel
theorem dX0_appendNumber_22 : decode cX0_appendNumber 22 = .ok (.lshr, 1) := by decide +kernel
theorem dX0_appendNumber_23 : decode cX0_appendNumber 23 = .ok (.l2i, 1) := by decide +kernel
theorem dX0_appendNumber_24 : decode cX0_appendNumber 24 = .ok (.sipush 255, 3) := by decide +kernel
theorem dX0_appendNumber_27 : decode cX0_appendNumber 27 = .ok (.iand, 1) := by decide +kernel
theorem dX0_appendNumber_28 : decode cX0_appendNumber 28 = .ok (.invokevirtual 37, 3) := by decide +kernel
theorem dX0_appendNumber_31 : decode cX0_appendNumber 31 = .ok (.iinc 4 (-1), 3) := by decide +kernel
theorem dX0_appendNumber_34 : decode cX0_appendNumber 34 = .ok (.goto (-24), 3) := by decide +kernel
theorem dX0_appendNumber_37 : decode cX0_appendNumber 37 = .ok (.return_, 1) := by decide +kernel
theorem dX0_append_0 : decode cX0_append 0 = .ok (.aload_n 0, 1) := by decide +kernel
theorem dX0_append_1 : decode cX0_append 1 = .ok (.iconst 1, 1) := by decide +kernel
theorem dX0_append_2 : decode cX0_append 2 = .ok (.invokevirtual 19, 3) := by decide +kernel
theorem dX0_append_5 : decode cX0_append 5 = .ok (.ifCond .eq 19, 3) := by decide +kernel
theorem dX0_append_8 : decode cX0_append 8 = .ok (.aload_n 0, 1) := by decide +kernel
theorem dX0_append_9 : decode cX0_append 9 = .ok (.iconst 1, 1) := by decide +kernel
theorem dX0_append_10 : decode cX0_append 10 = .ok (.invokevirtual 23, 3) := by decide +kernel
theorem dX0_append_13 : decode cX0_append 13 = .ok (.aload_n 0, 1) := by decide +kernel
theorem dX0_append_14 : decode cX0_append 14 = .ok (.aload_n 0, 1) := by decide +kernel
theorem dX0_append_15 : decode cX0_append 15 = .ok (.getfield 15, 3) := by decide +kernel
theorem dX0_append_18 : decode cX0_append 18 = .ok (.iconst 1, 1) := by decide +kernel
theorem dX0_append_19 : decode cX0_append 19 = .ok (.isub, 1) := by decide +kernel
theorem dX0_append_20 : decode cX0_append 20 = .ok (.iload_n 1, 1) := by decide +kernel
theorem dX0_append_21 : decode cX0_append 21 = .ok (.invokevirtual 27, 3) := by decide +kernel
theorem dX0_append_24 : decode cX0_append 24 = .ok (.return_, 1) := by decide +kernel
theorem dX0_lengthen_0 : decode cX0_lengthen 0 = .ok (.aload_n 0, 1) := by decide +kernel
theorem dX0_lengthen_1 : decode cX0_lengthen 1 = .ok (.getfield 15, 3) := by decide +kernel
theorem dX0_lengthen_4 : decode cX0_lengthen 4 = .ok (.iload_n 1, 1) := by decide +kernel
theorem dX0_lengthen_5 : decode cX0_lengthen 5 = .ok (.iadd, 1) := by decide +kernel
theorem dX0_lengthen_6 : decode cX0_lengthen 6 = .ok (.istore_n 2, 1) := by decide +kernel
theorem dX0_lengthen_7 : decode cX0_lengthen 7 = .ok (.iload_n 2, 1) := by decide +kernel
theorem dX0_lengthen_8 : decode cX0_lengthen 8 = .ok (.aload_n 0, 1) := by decide +kernel
theorem dX0_lengthen_9 : decode cX0_lengthen 9 = .ok (.getfield 9, 3) := by decide +kernel
theorem dX0_lengthen_12 : decode cX0_lengthen 12 = .ok (.arraylength, 1) := by decide +kernel
theorem dX0_lengthen_13 : decode cX0_lengthen 13 = .ok (.if_icmp .le 31, 3) := by decide +kernel
theorem dX0_lengthen_16 : decode cX0_lengthen 16 = .ok (.aload_n 0, 1) := by decide +kernel
theorem dX0_lengthen_17 : decode cX0_lengthen 17 = .ok (.aload_n 0, 1) := by decide +kernel
theorem dX0_lengthen_18 : decode cX0_lengthen 18 = .ok (.getfield 9, 3) := by decide +kernel
theorem dX0_lengthen_21 : decode cX0_lengthen 21 = .ok (.iload_n 2, 1) := by decide +kernel
theorem dX0_lengthen_22 : decode cX0_lengthen 22 = .ok (.sipush 4096, 3) := by decide +kernel
theorem dX0_lengthen_25 : decode cX0_lengthen 25 = .ok (.iconst 2, 1) := by decide +kernel
theorem dX0_lengthen_26 : decode cX0_lengthen 26 = .ok (.aload_n 0, 1) := by decide +kernel
theorem dX0_lengthen_27 : decode cX0_lengthen 27 = .ok (.getfield 9, 3) := by decide +kernel
theorem dX0_lengthen_30 : decode cX0_lengthen 30 = .ok (.arraylength, 1) := by decide +kernel
theorem dX0_lengthen_31 : decode cX0_lengthen 31 = .ok (.imul, 1) := by decide +kernel
theorem dX0_lengthen_32 : decode cX0_lengthen 32 = .ok (.invokestatic 31, 3) := by decide +kernel
theorem dX0_lengthen_35 : decode cX0_lengthen 35 = .ok (.invokestatic 57, 3) := by decide +kernel
theorem dX0_lengthen_38 : decode cX0_lengthen 38 = .ok (.invokestatic 60, 3) := by decide +kernel
theorem dX0_lengthen_41 : decode cX0_lengthen 41 = .ok (.putfield 9, 3) := by decide +kernel
theorem dX0_lengthen_44 : decode cX0_lengthen 44 = .ok (.aload_n 0, 1) := by decide +kernel
theorem dX0_lengthen_45 : decode cX0_lengthen 45 = .ok (.iload_n 2, 1) := by decide +kernel
theorem dX0_lengthen_46 : decode cX0_lengthen 46 = .ok (.putfield 15, 3) := by decide +kernel
theorem dX0_lengthen_49 : decode cX0_lengthen 49 = .ok (.return_, 1) := by decide +kernel
theorem dJA_copyB_0 : decode cJA_copyB 0 = .ok (.iload_n 1, 1) := by decide +kernel
theorem dJA_copyB_1 : decode cJA_copyB 1 = .ok (.aload_n 0, 1) := by decide +kernel
theorem dJA_copyB_2 : decode cJA_copyB 2 = .ok (.arraylength, 1) := by decide +kernel
theorem dJA_copyB_3 : decode cJA_copyB 3 = .ok (.if_icmp .ne 11, 3) := by decide +kernel
theorem dJA_copyB_6 : decode cJA_copyB 6 = .ok (.aload_n 0, 1) := by decide +kernel
theorem dJA_copyB_7 : decode cJA_copyB 7 = .ok (.invokevirtual 310, 3) := by decide +kernel
theorem dJA_copyB_10 : decode cJA_copyB 10 = .ok (.checkcast 311, 3) := by decide +kernel
theorem dJA_copyB_13 : decode cJA_copyB 13 = .ok (.areturn, 1) := by decide +kernel
theorem dJA_copyB_14 : decode cJA_copyB 14 = .ok (.iload_n 1, 1) := by decide +kernel
theorem dJA_copyB_15 : decode cJA_copyB 15 = .ok (.newarray .byte, 2) := by decide +kernel
theorem dJA_copyB_17 : decode cJA_copyB 17 = .ok (.astore_n 2, 1) := by decide +kernel
theorem dJA_copyB_18 : decode cJA_copyB 18 = .ok (.aload_n 0, 1) := by decide +kernel
theorem dJA_copyB_19 : decode cJA_copyB 19 = .ok (.iconst 0, 1) := by decide +kernel
theorem dJA_copyB_20 : decode cJA_copyB 20 = .ok (.aload_n 2, 1) := by decide +kernel
theorem dJA_copyB_21 : decode cJA_copyB 21 = .ok (.iconst 0, 1) := by decide +kernel
theorem dJA_copyB_22 : decode cJA_copyB 22 = .ok (.aload_n 0, 1) := by decide +kernel
theorem dJA_copyB_23 : decode cJA_copyB 23 = .ok (.arraylength, 1) := by decide +kernel
theorem dJA_copyB_24 : decode cJA_copyB 24 = .ok (.iload_n 1, 1) := by decide +kernel
theorem dJA_copyB_25 : decode cJA_copyB 25 = .ok (.invokestatic 304, 3) := by decide +kernel
theorem dJA_copyB_28 : decode cJA_copyB 28 = .ok (.invokestatic 150, 3) := by decide +kernel
theorem dJA_copyB_31 : decode cJA_copyB 31 = .ok (.aload_n 2, 1) := by decide +kernel
theorem dJA_copyB_32 : decode cJA_copyB 32 = .ok (.areturn, 1) := by decide +kernel
theorem dX0_set_0 : decode cX0_set 0 = .ok (.iload_n 1, 1) := by decide +kernel
theorem dX0_set_1 : decode cX0_set 1 = .ok (.ifCond .lt 20, 3) := by decide +kernel
theorem dX0_set_4 : decode cX0_set 4 = .ok (.iload_n 1, 1) := by decide +kernel
theorem dX0_set_5 : decode cX0_set 5 = .ok (.aload_n 0, 1) := by decide +kernel
theorem dX0_set_6 : decode cX0_set 6 = .ok (.getfield 9, 3) := by decide +kernel
theorem dX0_set_9 : decode cX0_set 9 = .ok (.arraylength, 1) := by decide +kernel
theorem dX0_set_10 : decode cX0_set 10 = .ok (.if_icmp .ge 11, 3) := by decide +kernel
theorem dX0_set_13 : decode cX0_set 13 = .ok (.aload_n 0, 1) := by decide +kernel
theorem dX0_set_14 : decode cX0_set 14 = .ok (.getfield 9, 3) := by decide +kernel
theorem dX0_set_17 : decode cX0_set 17 = .ok (.iload_n 1, 1) := by decide +kernel
theorem dX0_set_18 : decode cX0_set 18 = .ok (.iload_n 2, 1) := by decide +kernel
theorem dX0_set_19 : decode cX0_set 19 = .ok (.i2b, 1) := by decide +kernel
theorem dX0_set_20 : decode cX0_set 20 = .ok (.bastore, 1) := by decide +kernel
theorem dX0_set_21 : decode cX0_set 21 = .ok (.return_, 1) := by decide +kernel
theorem dX0_size_0 : decode cX0_size 0 = .ok (.aload_n 0, 1) := by decide +kernel
theorem dX0_size_1 : decode cX0_size 1 = .ok (.getfield 15, 3) := by decide +kernel
theorem dX0_size_4 : decode cX0_size 4 = .ok (.ireturn, 1) := by decide +kernel
theorem dX0_cut_0 : decode cX0_cut 0 = .ok (.iload_n 1, 1) := by decide +kernel
theorem dX0_cut_1 : decode cX0_cut 1 = .ok (.ifCond .lt 16, 3) := by decide +kernel
theorem dX0_cut_4 : decode cX0_cut 4 = .ok (.iload_n 1, 1) := by decide +kernel
theorem dX0_cut_5 : decode cX0_cut 5 = .ok (.aload_n 0, 1) := by decide +kernel
theorem dX0_cut_6 : decode cX0_cut 6 = .ok (.getfield 15, 3) := by decide +kernel
theorem dX0_cut_9 : decode cX0_cut 9 = .ok (.if_icmp .ge 8, 3) := by decide +kernel
theorem dX0_cut_12 : decode cX0_cut 12 = .ok (.aload_n 0, 1) := by decide +kernel
theorem dX0_cut_13 : decode cX0_cut 13 = .ok (.iload_n 1, 1) := by decide +kernel
theorem dX0_cut_14 : decode cX0_cut 14 = .ok (.putfield 15, 3) := by decide +kernel
theorem dX0_cut_17 : decode cX0_cut 17 = .ok (.return_, 1) := by decide +kernel
theorem dX0_become_0 : decode cX0_become 0 = .ok (.aload_n 0, 1) := by decide +kernel
theorem dX0_become_1 : decode cX0_become 1 = .ok (.iconst 0, 1) := by decide +kernel
theorem dX0_become_2 : decode cX0_become 2 = .ok (.invokevirtual 44, 3) := by decide +kernel
theorem dX0_become_5 : decode cX0_become 5 = .ok (.aload_n 0, 1) := by decide +kernel
theorem dX0_become_6 : decode cX0_become 6 = .ok (.aload_n 1, 1) := by decide +kernel
theorem dX0_become_7 : decode cX0_become 7 = .ok (.invokevirtual 47, 3) := by decide +kernel
theorem dX0_become_10 : decode cX0_become 10 = .ok (.return_, 1) := by decide +kernel
theorem dX0_putBehind_0 : decode cX0_putBehind 0 = .ok (.aload_n 0, 1) := by decide +kernel
theorem dX0_putBehind_1 : decode cX0_putBehind 1 = .ok (.getfield 15, 3) := by decide +kernel
theorem dX0_putBehind_4 : decode cX0_putBehind 4 = .ok (.istore_n 2, 1) := by decide +kernel
theorem dX0_putBehind_5 : decode cX0_putBehind 5 = .ok (.aload_n 0, 1) := by decide +kernel
theorem dX0_putBehind_6 : decode cX0_putBehind 6 = .ok (.aload_n 1, 1) := by decide +kernel
theorem dX0_putBehind_7 : decode cX0_putBehind 7 = .ok (.getfield 15, 3) := by decide +kernel
theorem dX0_putBehind_10 : decode cX0_putBehind 10 = .ok (.invokevirtual 19, 3) := by decide +kernel
theorem dX0_putBehind_13 : decode cX0_putBehind 13 = .ok (.ifCond .eq 24, 3) := by decide +kernel
theorem dX0_putBehind_16 : decode cX0_putBehind 16 = .ok (.aload_n 0, 1) := by decide +kernel
theorem dX0_putBehind_17 : decode cX0_putBehind 17 = .ok (.aload_n 1, 1) := by decide +kernel
theorem dX0_putBehind_18 : decode cX0_putBehind 18 = .ok (.getfield 15, 3) := by decide +kernel
theorem dX0_putBehind_21 : decode cX0_putBehind 21 = .ok (.invokevirtual 23, 3) := by decide +kernel
theorem dX0_putBehind_24 : decode cX0_putBehind 24 = .ok (.aload_n 0, 1) := by decide +kernel
theorem dX0_putBehind_25 : decode cX0_putBehind 25 = .ok (.aload_n 1, 1) := by decide +kernel
theorem dX0_putBehind_26 : decode cX0_putBehind 26 = .ok (.getfield 9, 3) := by decide +kernel
theorem dX0_putBehind_29 : decode cX0_putBehind 29 = .ok (.aload_n 1, 1) := by decide +kernel
theorem dX0_putBehind_30 : decode cX0_putBehind 30 = .ok (.getfield 15, 3) := by decide +kernel
theorem dX0_putBehind_33 : decode cX0_putBehind 33 = .ok (.iload_n 2, 1) := by decide +kernel
theorem dX0_putBehind_34 : decode cX0_putBehind 34 = .ok (.invokevirtual 40, 3) := by decide +kernel
theorem dX0_putBehind_37 : decode cX0_putBehind 37 = .ok (.return_, 1) := by decide +kernel
theorem dX0_layOver_0 : decode cX0_layOver 0 = .ok (.iload_n 2, 1) := by decide +kernel
theorem dX0_layOver_1 : decode cX0_layOver 1 = .ok (.ifCond .lt 35, 3) := by decide +kernel
theorem dX0_layOver_4 : decode cX0_layOver 4 = .ok (.iload_n 2, 1) := by decide +kernel
theorem dX0_layOver_5 : decode cX0_layOver 5 = .ok (.aload_n 1, 1) := by decide +kernel
theorem dX0_layOver_6 : decode cX0_layOver 6 = .ok (.arraylength, 1) := by decide +kernel
theorem dX0_layOver_7 : decode cX0_layOver 7 = .ok (.if_icmp .gt 29, 3) := by decide +kernel
theorem dX0_layOver_10 : decode cX0_layOver 10 = .ok (.iload_n 3, 1) := by decide +kernel
theorem dX0_layOver_11 : decode cX0_layOver 11 = .ok (.ifCond .lt 25, 3) := by decide +kernel
theorem dX0_layOver_14 : decode cX0_layOver 14 = .ok (.iload_n 3, 1) := by decide +kernel
theorem dX0_layOver_15 : decode cX0_layOver 15 = .ok (.aload_n 0, 1) := by decide +kernel
theorem dX0_layOver_16 : decode cX0_layOver 16 = .ok (.getfield 9, 3) := by decide +kernel
theorem dX0_layOver_19 : decode cX0_layOver 19 = .ok (.arraylength, 1) := by decide +kernel
theorem dX0_layOver_20 : decode cX0_layOver 20 = .ok (.iload_n 2, 1) := by decide +kernel
theorem dX0_layOver_21 : decode cX0_layOver 21 = .ok (.isub, 1) := by decide +kernel
theorem dX0_layOver_22 : decode cX0_layOver 22 = .ok (.if_icmp .gt 14, 3) := by decide +kernel
theorem dX0_layOver_25 : decode cX0_layOver 25 = .ok (.aload_n 1, 1) := by decide +kernel
theorem dX0_layOver_26 : decode cX0_layOver 26 = .ok (.iconst 0, 1) := by decide +kernel
theorem dX0_layOver_27 : decode cX0_layOver 27 = .ok (.aload_n 0, 1) := by decide +kernel
theorem dX0_layOver_28 : decode cX0_layOver 28 = .ok (.getfield 9, 3) := by decide +kernel
theorem dX0_layOver_31 : decode cX0_layOver 31 = .ok (.iload_n 3, 1) := by decide +kernel
theorem dX0_layOver_32 : decode cX0_layOver 32 = .ok (.iload_n 2, 1) := by decide +kernel
theorem dX0_layOver_33 : decode cX0_layOver 33 = .ok (.invokestatic 51, 3) := by decide +kernel
theorem dX0_layOver_36 : decode cX0_layOver 36 = .ok (.return_, 1) := by decide +kernel
theorem dX0_at_0 : decode cX0_at 0 = .ok (.iload_n 1, 1) := by decide +kernel
theorem dX0_at_1 : decode cX0_at 1 = .ok (.ifCond .lt 33, 3) := by decide +kernel
theorem dX0_at_4 : decode cX0_at 4 = .ok (.iload_n 1, 1) := by decide +kernel
theorem dX0_at_5 : decode cX0_at 5 = .ok (.aload_n 0, 1) := by decide +kernel
theorem dX0_at_6 : decode cX0_at 6 = .ok (.getfield 15, 3) := by decide +kernel
theorem dX0_at_9 : decode cX0_at 9 = .ok (.if_icmp .ge 25, 3) := by decide +kernel
theorem dX0_at_12 : decode cX0_at 12 = .ok (.iload_n 1, 1) := by decide +kernel
theorem dX0_at_13 : decode cX0_at 13 = .ok (.aload_n 0, 1) := by decide +kernel
theorem dX0_at_14 : decode cX0_at 14 = .ok (.getfield 9, 3) := by decide +kernel
theorem dX0_at_17 : decode cX0_at 17 = .ok (.arraylength, 1) := by decide +kernel
theorem dX0_at_18 : decode cX0_at 18 = .ok (.if_icmp .ge 16, 3) := by decide +kernel
theorem dX0_at_21 : decode cX0_at 21 = .ok (.aload_n 0, 1) := by decide +kernel
theorem dX0_at_22 : decode cX0_at 22 = .ok (.getfield 9, 3) := by decide +kernel
theorem dX0_at_25 : decode cX0_at 25 = .ok (.iload_n 1, 1) := by decide +kernel
theorem dX0_at_26 : decode cX0_at 26 = .ok (.baload, 1) := by decide +kernel
theorem dX0_at_27 : decode cX0_at 27 = .ok (.sipush 255, 3) := by decide +kernel
theorem dX0_at_30 : decode cX0_at 30 = .ok (.iand, 1) := by decide +kernel
theorem dX0_at_31 : decode cX0_at 31 = .ok (.goto 4, 3) := by decide +kernel
theorem dX0_at_34 : decode cX0_at 34 = .ok (.iconst 0, 1) := by decide +kernel
theorem dX0_at_35 : decode cX0_at 35 = .ok (.ireturn, 1) := by decide +kernel
theorem dJA_copyI_0 : decode cJA_copyI 0 = .ok (.iload_n 1, 1) := by decide +kernel
theorem dJA_copyI_1 : decode cJA_copyI 1 = .ok (.aload_n 0, 1) := by decide +kernel
theorem dJA_copyI_2 : decode cJA_copyI 2 = .ok (.arraylength, 1) := by decide +kernel
theorem dJA_copyI_3 : decode cJA_copyI 3 = .ok (.if_icmp .ne 11, 3) := by decide +kernel
theorem dJA_copyI_6 : decode cJA_copyI 6 = .ok (.aload_n 0, 1) := by decide +kernel
theorem dJA_copyI_7 : decode cJA_copyI 7 = .ok (.invokevirtual 316, 3) := by decide +kernel
theorem dJA_copyI_10 : decode cJA_copyI 10 = .ok (.checkcast 317, 3) := by decide +kernel
theorem dJA_copyI_13 : decode cJA_copyI 13 = .ok (.areturn, 1) := by decide +kernel
theorem dJA_copyI_14 : decode cJA_copyI 14 = .ok (.iload_n 1, 1) := by decide +kernel
theorem dJA_copyI_15 : decode cJA_copyI 15 = .ok (.newarray .int, 2) := by decide +kernel
theorem dJA_copyI_17 : decode cJA_copyI 17 = .ok (.astore_n 2, 1) := by decide +kernel
theorem dJA_copyI_18 : decode cJA_copyI 18 = .ok (.aload_n 0, 1) := by decide +kernel
theorem dJA_copyI_19 : decode cJA_copyI 19 = .ok (.iconst 0, 1) := by decide +kernel
theorem dJA_copyI_20 : decode cJA_copyI 20 = .ok (.aload_n 2, 1) := by decide +kernel
theorem dJA_copyI_21 : decode cJA_copyI 21 = .ok (.iconst 0, 1) := by decide +kernel
theorem dJA_copyI_22 : decode cJA_copyI 22 = .ok (.aload_n 0, 1) := by decide +kernel
theorem dJA_copyI_23 : decode cJA_copyI 23 = .ok (.arraylength, 1) := by decide +kernel
theorem dJA_copyI_24 : decode cJA_copyI 24 = .ok (.iload_n 1, 1) := by decide +kernel
theorem dJA_copyI_25 : decode cJA_copyI 25 = .ok (.invokestatic 304, 3) := by decide +kernel
theorem dJA_copyI_28 : decode cJA_copyI 28 = .ok (.invokestatic 150, 3) := by decide +kernel
theorem dJA_copyI_31 : decode cJA_copyI 31 = .ok (.aload_n 2, 1) := by decide +kernel
theorem dJA_copyI_32 : decode cJA_copyI 32 = .ok (.areturn, 1) := by decide +kernel
theorem dX0_putInFront_0 : decode cX0_putInFront 0 = .ok (.aload_n 0, 1) := by decide +kernel
theorem dX0_putInFront_1 : decode cX0_putInFront 1 = .ok (.getfield 15, 3) := by decide +kernel
theorem dX0_putInFront_4 : decode cX0_putInFront 4 = .ok (.istore_n 2, 1) := by decide +kernel
theorem dX0_putInFront_5 : decode cX0_putInFront 5 = .ok (.aload_n 1, 1) := by decide +kernel
theorem dX0_putInFront_6 : decode cX0_putInFront 6 = .ok (.getfield 15, 3) := by decide +kernel
theorem dX0_putInFront_9 : decode cX0_putInFront 9 = .ok (.istore_n 3, 1) := by decide +kernel
theorem dX0_putInFront_10 : decode cX0_putInFront 10 = .ok (.aload_n 0, 1) := by decide +kernel
theorem dX0_putInFront_11 : decode cX0_putInFront 11 = .ok (.iload_n 3, 1) := by decide +kernel
theorem dX0_putInFront_12 : decode cX0_putInFront 12 = .ok (.invokevirtual 19, 3) := by decide +kernel
theorem dX0_putInFront_15 : decode cX0_putInFront 15 = .ok (.ifCond .eq 28, 3) := by decide +kernel
theorem dX0_putInFront_18 : decode cX0_putInFront 18 = .ok (.aload_n 0, 1) := by decide +kernel
theorem dX0_putInFront_19 : decode cX0_putInFront 19 = .ok (.iload_n 3, 1) := by decide +kernel
theorem dX0_putInFront_20 : decode cX0_putInFront 20 = .ok (.invokevirtual 23, 3) := by decide +kernel
theorem dX0_putInFront_23 : decode cX0_putInFront 23 = .ok (.aload_n 0, 1) := by decide +kernel
theorem dX0_putInFront_24 : decode cX0_putInFront 24 = .ok (.aload_n 0, 1) := by decide +kernel
theorem dX0_putInFront_25 : decode cX0_putInFront 25 = .ok (.getfield 9, 3) := by decide +kernel
theorem dX0_putInFront_28 : decode cX0_putInFront 28 = .ok (.iload_n 2, 1) := by decide +kernel
theorem dX0_putInFront_29 : decode cX0_putInFront 29 = .ok (.iload_n 3, 1) := by decide +kernel
theorem dX0_putInFront_30 : decode cX0_putInFront 30 = .ok (.invokevirtual 40, 3) := by decide +kernel
theorem dX0_putInFront_33 : decode cX0_putInFront 33 = .ok (.aload_n 0, 1) := by decide +kernel
theorem dX0_putInFront_34 : decode cX0_putInFront 34 = .ok (.aload_n 1, 1) := by decide +kernel
theorem dX0_putInFront_35 : decode cX0_putInFront 35 = .ok (.getfield 9, 3) := by decide +kernel
theorem dX0_putInFront_38 : decode cX0_putInFront 38 = .ok (.iload_n 3, 1) := by decide +kernel
theorem dX0_putInFront_39 : decode cX0_putInFront 39 = .ok (.iconst 0, 1) := by decide +kernel
theorem dX0_putInFront_40 : decode cX0_putInFront 40 = .ok (.invokevirtual 40, 3) := by decide +kernel
theorem dX0_putInFront_43 : decode cX0_putInFront 43 = .ok (.return_, 1) := by decide +kernel
theorem dJI_compare_0 : decode cJI_compare 0 = .ok (.iload_n 0, 1) := by decide +kernel
theorem dJI_compare_1 : decode cJI_compare 1 = .ok (.iload_n 1, 1) := by decide +kernel
theorem dJI_compare_2 : decode cJI_compare 2 = .ok (.if_icmp .ge 7, 3) := by decide +kernel
theorem dJI_compare_5 : decode cJI_compare 5 = .ok (.iconst (-1), 1) := by decide +kernel
theorem dJI_compare_6 : decode cJI_compare 6 = .ok (.goto 13, 3) := by decide +kernel
theorem dJI_compare_9 : decode cJI_compare 9 = .ok (.iload_n 0, 1) := by decide +kernel
theorem dJI_compare_10 : decode cJI_compare 10 = .ok (.iload_n 1, 1) := by decide +kernel
theorem dJI_compare_11 : decode cJI_compare 11 = .ok (.if_icmp .ne 7, 3) := by decide +kernel
theorem dJI_compare_14 : decode cJI_compare 14 = .ok (.iconst 0, 1) := by decide +kernel
theorem dJI_compare_15 : decode cJI_compare 15 = .ok (.goto 4, 3) := by decide +kernel
theorem dJI_compare_18 : decode cJI_compare 18 = .ok (.iconst 1, 1) := by decide +kernel
theorem dJI_compare_19 : decode cJI_compare 19 = .ok (.ireturn, 1) := by decide +kernel
end
section
/-! ints and longs as whole numbers: iI z, lI z; a byte of an array: bI z -/
def iI (z : Int) : Int32 := Int32.ofInt z
def lI (z : Int) : Int64 := Int64.ofInt z
def bI (z : Int) : Int32 := (iI z).toInt8.toInt32
theorem iI_toInt {z : Int} (h : -2147483648 ≤ z ∧ z < 2147483648) : (iI z).toInt = z := Int32.toInt_ofInt_of_le (by omega) (by omega)
theorem lI_toInt {z : Int} (h : -9223372036854775808 ≤ z ∧ z < 9223372036854775808) : (lI z).toInt = z := Int64.toInt_ofInt_of_le (by omega) (by omega)
theorem iI_add (a b : Int) : iI a + iI b = iI (a + b) := (Int32.ofInt_add a b).symm
theorem iI_sub (a b : Int) : iI a - iI b = iI (a - b) := (Int32.ofInt_sub a b).symm
theorem iI_mul (a b : Int) : iI a * iI b = iI (a * b) := (Int32.ofInt_mul a b).symm
theorem iI_neg (a : Int) : -iI a = iI (-a) := Int32.neg_ofInt
theorem lI_add (a b : Int) : lI a + lI b = lI (a + b) := (Int64.ofInt_add a b).symm
theorem lI_sub (a b : Int) : lI a - lI b = lI (a - b) := (Int64.ofInt_sub a b).symm
theorem lI_mul (a b : Int) : lI a * lI b = lI (a * b) := (Int64.ofInt_mul a b).symm
theorem iI_le {a b : Int} (ha : -2147483648 ≤ a ∧ a < 2147483648) (hb : -2147483648 ≤ b ∧ b < 2147483648) : iI a ≤ iI b ↔ a ≤ b := by
  rw [Int32.le_iff_toInt_le, iI_toInt ha, iI_toInt hb]
theorem iI_lt {a b : Int} (ha : -2147483648 ≤ a ∧ a < 2147483648) (hb : -2147483648 ≤ b ∧ b < 2147483648) : iI a < iI b ↔ a < b := by
  rw [Int32.lt_iff_toInt_lt, iI_toInt ha, iI_toInt hb]
theorem iI_eq {a b : Int} (ha : -2147483648 ≤ a ∧ a < 2147483648) (hb : -2147483648 ≤ b ∧ b < 2147483648) : iI a = iI b ↔ a = b := by
  constructor
  · intro h
    have h2 := congrArg Int32.toInt h
    rwa [iI_toInt ha, iI_toInt hb] at h2
  · intro h
    rw [h]
theorem lI_eq {a b : Int} (ha : -9223372036854775808 ≤ a ∧ a < 9223372036854775808) (hb : -9223372036854775808 ≤ b ∧ b < 9223372036854775808) : lI a = lI b ↔ a = b := by
  constructor
  · intro h
    have h2 := congrArg Int64.toInt h
    rwa [lI_toInt ha, lI_toInt hb] at h2
  · intro h
    rw [h]
theorem lI_lt {a b : Int} (ha : -9223372036854775808 ≤ a ∧ a < 9223372036854775808) (hb : -9223372036854775808 ≤ b ∧ b < 9223372036854775808) : lI a < lI b ↔ a < b := by
  rw [Int64.lt_iff_toInt_lt, lI_toInt ha, lI_toInt hb]
theorem iI_self (x : Int32) : iI x.toInt = x := Int32.ofInt_toInt x
theorem lI_self (x : Int64) : lI x.toInt = x := Int64.ofInt_toInt x
theorem iI_rng (x : Int32) : -2147483648 ≤ x.toInt ∧ x.toInt < 2147483648 := ⟨by have := x.le_toInt; omega, by have := x.toInt_lt; omega⟩
theorem lI_rng (x : Int64) : -9223372036854775808 ≤ x.toInt ∧ x.toInt < 9223372036854775808 := ⟨by have := x.le_toInt; omega, by have := x.toInt_lt; omega⟩
theorem iI_ex (x : Int32) : ∃ z : Int, x = iI z ∧ -2147483648 ≤ z ∧ z < 2147483648 := ⟨x.toInt, (iI_self x).symm, iI_rng x⟩
theorem lI_ex (x : Int64) : ∃ z : Int, x = lI z ∧ -9223372036854775808 ≤ z ∧ z < 9223372036854775808 := ⟨x.toInt, (lI_self x).symm, lI_rng x⟩
theorem iI_clamp {z : Int} (h : -2147483648 ≤ z ∧ z < 2147483648) : (iI z).toNatClampNeg = z.toNat := by
  show (iI z).toInt.toNat = _
  rw [iI_toInt h]
theorem iI_in {z : Int} {n : Nat} (h : 0 ≤ z ∧ z < n) (hn : n < 2147483648) : vp_in (iI z) n := vp_in_iff.mpr (by rw [iI_toInt (by omega)]; exact h)
theorem bp_b (x : Int32) : x.toInt8.toInt32 &&& 255 = x &&& 255 := by
  apply Int32.toBitVec_inj.mp
  rw [Int32.toBitVec_and, Int32.toBitVec_and, Int8.toBitVec_toInt32, Int32.toBitVec_toInt8]
  apply BitVec.eq_of_getLsbD_eq
  intro i hi
  rw [BitVec.getLsbD_and, BitVec.getLsbD_and]
  have hm : ∀ i < 32, 8 ≤ i → (255 : Int32).toBitVec.getLsbD i = false := by decide
  rcases Nat.lt_or_ge i 8 with z | z
  · rw [BitVec.getLsbD_signExtend, BitVec.getLsbD_signExtend, if_pos z, if_pos hi]
    simp only [z, hi, decide_true, Bool.true_and]
  · rw [hm i hi z]; simp
theorem iI_255 : iI 255 = 255 := by decide +kernel
theorem iI_nI (n : Nat) : nI n = iI n := by
  unfold nI iI
  exact Int32.ofInt_eq_ofNat.symm
theorem lI_lN (n : Nat) : lN n = lI n := by
  unfold lN lI
  exact Int64.ofInt_eq_ofNat.symm
theorem iI_neg1 : iI (-1) = -1 := by decide +kernel
theorem iI_bv (z : Int) : (iI z).toBitVec = BitVec.ofInt 32 z := rfl
theorem iI_bvn (z : Int) : (((iI z).toBitVec.toNat : Nat) : Int) = z % 4294967296 := by
  rw [iI_bv, BitVec.toNat_ofInt]
  have : (0 : Int) ≤ z % 4294967296 := Int.emod_nonneg _ (by decide)
  omega
/-- a mask of k ones -/
theorem iI_mask (z : Int) {m : Int} (k : Nat) (P : Int) (hP : P = ((2 ^ k : Nat) : Int)) (hm : (iI m).toBitVec.toNat = 2 ^ k - 1) (hk : P ∣ 4294967296) : iI z &&& iI m = iI (z % P) := by
  rw [pk_and _ k hm, iI_nI, Int.natCast_emod, iI_bvn, ← hP, Int.emod_emod_of_dvd _ hk]
theorem iI_and255 (z : Int) : iI z &&& iI 255 = iI (z % 256) := iI_mask z 8 256 (by decide) (by decide +kernel) (by decide)
theorem iI_and127 (z : Int) : iI z &&& iI 127 = iI (z % 128) := iI_mask z 7 128 (by decide) (by decide +kernel) (by decide)
theorem iI_and31 (z : Int) : iI z &&& iI 31 = iI (z % 32) := iI_mask z 5 32 (by decide) (by decide +kernel) (by decide)
theorem iI_and15 (z : Int) : iI z &&& iI 15 = iI (z % 16) := iI_mask z 4 16 (by decide) (by decide +kernel) (by decide)
theorem iI_and32n : ∀ n : Fin 256, (nI n.val &&& iI 32) = nI (n.val / 32 % 2 * 32) := by decide +kernel
theorem iI_and32 {z : Int} (h : 0 ≤ z ∧ z < 256) : iI z &&& iI 32 = iI (z / 32 % 2 * 32) := by
  obtain ⟨n, rfl⟩ := Int.eq_ofNat_of_zero_le h.1
  have hn : n < 256 := by omega
  have h2 := iI_and32n ⟨n, hn⟩
  rw [iI_nI, iI_nI] at h2
  rw [h2]
  congr 1
theorem iI_sh : ∀ k : Fin 32, ((nI k.val &&& 31).toBitVec.smod 32).toNat = k.val := by decide +kernel
theorem iI_shr {a k : Int} (ha : -2147483648 ≤ a ∧ a < 2147483648) (hk : 0 ≤ k ∧ k < 32) : iI a >>> (iI k &&& 31) = iI (a / (2 ^ k.toNat)) := by
  obtain ⟨n, rfl⟩ := Int.eq_ofNat_of_zero_le hk.1
  have hn : n < 32 := by omega
  have h2 := iI_sh ⟨n, hn⟩
  rw [iI_nI] at h2
  apply Int32.toInt_inj.mp
  rw [pk_shr _ _ n h2, iI_toInt ha, Int.shiftRight_eq_div_pow, iI_toInt]
  · simp
  · simp only [Int.toNat_natCast]
    have hp : (0 : Int) < 2 ^ n := Int.pow_pos (by decide)
    constructor
    · apply Int.le_ediv_of_mul_le hp
      have h1 : (1 : Int) ≤ 2 ^ n := hp
      have : (-2147483648 : Int) * 2 ^ n ≤ -2147483648 * 1 := Int.mul_le_mul_of_nonpos_left (by decide) h1
      omega
    · apply Int.ediv_lt_of_lt_mul hp
      have h1 : (1 : Int) ≤ 2 ^ n := hp
      have : (2147483648 : Int) * 1 ≤ 2147483648 * 2 ^ n := Int.mul_le_mul_of_nonneg_left h1 (by decide)
      omega
theorem lI_sh : ∀ k : Fin 64, (((nI k.val).toInt64 &&& 63).toBitVec.smod 64).toNat = k.val := by decide +kernel
theorem lI_shr {a k : Int} (ha : -9223372036854775808 ≤ a ∧ a < 9223372036854775808) (hk : 0 ≤ k ∧ k < 64) : lI a >>> ((iI k).toInt64 &&& 63) = lI (a / (2 ^ k.toNat)) := by
  obtain ⟨n, rfl⟩ := Int.eq_ofNat_of_zero_le hk.1
  have hn : n < 64 := by omega
  have h2 := lI_sh ⟨n, hn⟩
  rw [iI_nI] at h2
  have h3 : (lI a >>> ((iI (n : Int)).toInt64 &&& 63)).toInt = a >>> n := by
    show ((lI a).toBitVec.sshiftRight (((iI (n : Int)).toInt64 &&& 63).toBitVec.smod 64).toNat).toInt = _
    rw [h2, BitVec.toInt_sshiftRight]
    show (lI a).toInt >>> n = _
    rw [lI_toInt ha]
  apply Int64.toInt_inj.mp
  rw [h3, Int.shiftRight_eq_div_pow, lI_toInt]
  · simp
  · simp only [Int.toNat_natCast]
    have hp : (0 : Int) < 2 ^ n := Int.pow_pos (by decide)
    constructor
    · apply Int.le_ediv_of_mul_le hp
      have h1 : (1 : Int) ≤ 2 ^ n := hp
      have : (-9223372036854775808 : Int) * 2 ^ n ≤ -9223372036854775808 * 1 := Int.mul_le_mul_of_nonpos_left (by decide) h1
      omega
    · apply Int.ediv_lt_of_lt_mul hp
      have h1 : (1 : Int) ≤ 2 ^ n := hp
      have : (9223372036854775808 : Int) * 1 ≤ 9223372036854775808 * 2 ^ n := Int.mul_le_mul_of_nonneg_left h1 (by decide)
      omega
theorem lI_shl8 (z : Int) : lI z <<< ((iI 8).toInt64 &&& 63) = lI (z * 256) := by
  apply Int64.toBitVec_inj.mp
  show (BitVec.ofInt 64 z) <<< ((((iI 8).toInt64 &&& 63).toBitVec.smod 64).toNat) = BitVec.ofInt 64 (z * 256)
  have h : (((iI 8).toInt64 &&& 63).toBitVec.smod 64).toNat = 8 := by decide +kernel
  rw [h, BitVec.shiftLeft_eq_mul_twoPow, BitVec.ofInt_mul]
  rfl
theorem lI_or8 (z : Int) {b : Int} (hb : 0 ≤ b ∧ b < 256) : lI (z * 256) ||| lI b = lI (z * 256 + b) := by
  apply Int64.toBitVec_inj.mp
  show BitVec.ofInt 64 (z * 256) ||| BitVec.ofInt 64 b = BitVec.ofInt 64 (z * 256 + b)
  rw [BitVec.ofInt_add]
  symm
  apply BitVec.add_eq_or_of_and_eq_zero
  have h1 : BitVec.ofInt 64 (z * 256) = BitVec.ofInt 64 z <<< 8 := by
    rw [BitVec.shiftLeft_eq_mul_twoPow, BitVec.ofInt_mul]; rfl
  rw [h1]
  apply BitVec.eq_of_getLsbD_eq
  intro i hi
  rw [BitVec.getLsbD_and, BitVec.getLsbD_shiftLeft]
  simp only [BitVec.getLsbD_zero]
  by_cases h8 : i < 8
  · simp [h8]
  · have h9 : (BitVec.ofInt 64 b).getLsbD i = false := by
      obtain ⟨n, rfl⟩ := Int.eq_ofNat_of_zero_le hb.1
      rw [BitVec.ofInt_natCast, BitVec.getLsbD_ofNat]
      have hn : n < 2 ^ 8 := by omega
      have hp : 2 ^ 8 ≤ 2 ^ i := Nat.pow_le_pow_right (by decide) (by omega)
      rw [Nat.testBit_lt_two_pow (Nat.lt_of_lt_of_le hn hp)]
      simp
    rw [h9]
    simp
theorem lI_i2l {z : Int} (h : -2147483648 ≤ z ∧ z < 2147483648) : (iI z).toInt64 = lI z := by
  have h1 : Int32.minValue.toInt = -2147483648 := by decide
  have h2 : Int32.maxValue.toInt = 2147483647 := by decide
  exact Int32.toInt64_ofInt (by omega) (by omega)
theorem iI_l2i (z : Int) : (lI z).toInt32 = iI z := Int64.toInt32_ofInt
theorem bI_and (z : Int) : bI z &&& iI 255 = iI (z % 256) := by
  rw [← iI_and255, iI_255]
  exact bp_b (iI z)
theorem bI_nar (z : Int) : vp_nar .byte (bI z) = bI z := pk_vb (iI z)
theorem bI_fit (z : Int) : fits .byte (.int (bI z)) = true := pk_fb (iI z)
end
section
theorem iI_0 : iI 0 = 0 := by decide +kernel
theorem iI_ok0 : -2147483648 ≤ (0 : Int) ∧ (0 : Int) < 2147483648 := by decide
theorem iI_upd (f : Nat → Int) (k : Nat) (x : Int) : upd (fun j => iI (f j)) k (iI x) = fun j => iI (vf_upd f k x j) := by
  funext j
  unfold upd vf_upd
  split <;> rfl
theorem bI_upd (f : Nat → Int) (k : Nat) (x : Int) : upd (fun j => bI (f j)) k (vp_nar .byte (bI x)) = fun j => bI (vf_upd f k x j) := by
  rw [bI_nar]
  funext j
  unfold upd vf_upd
  split <;> rfl
theorem bI_cpy (f g : Nat → Int) (a b n : Nat) : va_cpy (fun j => bI (f j)) (fun j => bI (g j)) a b n = fun j => bI (va_cpy f g a b n j) := by
  funext j
  unfold va_cpy
  split <;> rfl
theorem iI_cpy (f g : Nat → Int) (a b n : Nat) : va_cpy (fun j => iI (f j)) (fun j => iI (g j)) a b n = fun j => iI (va_cpy f g a b n j) := by
  funext j
  unfold va_cpy
  split <;> rfl
theorem iI_min {x y : Int} (hz : -2147483648 ≤ x ∧ x < 2147483648) (hy : -2147483648 ≤ y ∧ y < 2147483648) : (if iI y < iI x then iI y else iI x) = iI (min x y) := by
  simp only [iI_lt hy hz]
  split <;> congr 1 <;> omega
theorem iI_max {x y : Int} (hz : -2147483648 ≤ x ∧ x < 2147483648) (hy : -2147483648 ≤ y ∧ y < 2147483648) : (if iI x < iI y then iI y else iI x) = iI (max x y) := by
  simp only [iI_lt hz hy]
  split <;> congr 1 <;> omega
theorem lc_e {x y : Int} (hz : -9223372036854775808 ≤ x ∧ x < 9223372036854775808) (hy : -9223372036854775808 ≤ y ∧ y < 9223372036854775808) : lg_cmp (lI x) (lI y) = if y < x then 1 else if x = y then 0 else -1 := by
  unfold lg_cmp
  simp only [gt_iff_lt, lI_lt hy hz, lI_eq hz hy]
theorem lc_le {x y : Int} (hz : -9223372036854775808 ≤ x ∧ x < 9223372036854775808) (hy : -9223372036854775808 ≤ y ∧ y < 9223372036854775808) : lg_cmp (lI x) (lI y) ≤ 0 ↔ x ≤ y := by
  rw [lc_e hz hy]
  split
  · constructor <;> intro h <;> first | omega | exact absurd h (by decide) | decide
  · split
    · constructor <;> intro h <;> first | omega | exact absurd h (by decide) | decide
    · constructor <;> intro h <;> first | omega | exact absurd h (by decide) | decide
theorem lc_lt {x y : Int} (hz : -9223372036854775808 ≤ x ∧ x < 9223372036854775808) (hy : -9223372036854775808 ≤ y ∧ y < 9223372036854775808) : lg_cmp (lI x) (lI y) < 0 ↔ x < y := by
  rw [lc_e hz hy]
  split
  · constructor <;> intro h <;> first | omega | exact absurd h (by decide) | decide
  · split
    · constructor <;> intro h <;> first | omega | exact absurd h (by decide) | decide
    · constructor <;> intro h <;> first | omega | exact absurd h (by decide) | decide
theorem lc_ge {x y : Int} (hz : -9223372036854775808 ≤ x ∧ x < 9223372036854775808) (hy : -9223372036854775808 ≤ y ∧ y < 9223372036854775808) : 0 ≤ lg_cmp (lI x) (lI y) ↔ y ≤ x := by
  rw [lc_e hz hy]
  split
  · constructor <;> intro h <;> first | omega | exact absurd h (by decide) | decide
  · split
    · constructor <;> intro h <;> first | omega | exact absurd h (by decide) | decide
    · constructor <;> intro h <;> first | omega | exact absurd h (by decide) | decide
theorem lc_gt {x y : Int} (hz : -9223372036854775808 ≤ x ∧ x < 9223372036854775808) (hy : -9223372036854775808 ≤ y ∧ y < 9223372036854775808) : 0 < lg_cmp (lI x) (lI y) ↔ y < x := by
  rw [lc_e hz hy]
  split
  · constructor <;> intro h <;> first | omega | exact absurd h (by decide) | decide
  · split
    · constructor <;> intro h <;> first | omega | exact absurd h (by decide) | decide
    · constructor <;> intro h <;> first | omega | exact absurd h (by decide) | decide
theorem lc_eq {x y : Int} (hz : -9223372036854775808 ≤ x ∧ x < 9223372036854775808) (hy : -9223372036854775808 ≤ y ∧ y < 9223372036854775808) : lg_cmp (lI x) (lI y) = 0 ↔ x = y := by
  rw [lc_e hz hy]
  split
  · constructor <;> intro h <;> first | omega | exact absurd h (by decide) | decide
  · split
    · constructor <;> intro h <;> first | omega | exact absurd h (by decide) | decide
    · constructor <;> intro h <;> first | omega | exact absurd h (by decide) | decide
theorem zb_n {x : Int} (h : x = 0 ∨ x = 1) : narrow .boolean (.int (iI x)) = .int (iI x) := by
  rcases h with rfl | rfl <;> decide +kernel
theorem zb_f {x : Int} (h : x = 0 ∨ x = 1) : fits .boolean (.int (iI x)) = true := by
  rcases h with rfl | rfl <;> decide +kernel
section LI
variable {p : Program} {l : Launch} {e : Env} {R : Room} {s : State} {m : MethodId} {args : Array Value} {below : List Frame} {meth : Method} {c : Code} {H : Heap} {locs : List Loc} {cells slots : Nat} {Q : State → Prop}
variable {cc : ByteArray} {pc : Nat} {ls : Array Slot} {rest : List Value} {D : va_G} {cl : List vw_C} {A : Nat → Prop} {a : Nat} {tys : List (ClassId × FieldType)} {ws : va_W} {H0 : Heap}
theorem li_iadd (hx : p.tables.exec = Jvm.exec) (hb : c.code = cc) {x y : Int} (hdg : decode cc pc = .ok (.iadd, 1))
    (k : W p l e R s m args below meth c H locs cells slots Q (F0 m (pc + 1) ls (.int (iI (x + y)) :: rest))) : W p l e R s m args below meth c H locs cells slots Q (F0 m pc ls (.int (iI y) :: .int (iI x) :: rest)) :=
  lv_iadd hx hb hdg (by rw [iI_add]; exact k)
theorem li_isub (hx : p.tables.exec = Jvm.exec) (hb : c.code = cc) {x y : Int} (hdg : decode cc pc = .ok (.isub, 1))
    (k : W p l e R s m args below meth c H locs cells slots Q (F0 m (pc + 1) ls (.int (iI (x - y)) :: rest))) : W p l e R s m args below meth c H locs cells slots Q (F0 m pc ls (.int (iI y) :: .int (iI x) :: rest)) :=
  lv_isub hx hb hdg (by rw [iI_sub]; exact k)
theorem li_imul (hx : p.tables.exec = Jvm.exec) (hb : c.code = cc) {x y : Int} (hdg : decode cc pc = .ok (.imul, 1))
    (k : W p l e R s m args below meth c H locs cells slots Q (F0 m (pc + 1) ls (.int (iI (x * y)) :: rest))) : W p l e R s m args below meth c H locs cells slots Q (F0 m pc ls (.int (iI y) :: .int (iI x) :: rest)) :=
  lv_imul hx hb hdg (by rw [iI_mul]; exact k)
theorem li_ladd (hx : p.tables.exec = Jvm.exec) (hb : c.code = cc) {x y : Int} (hdg : decode cc pc = .ok (.ladd, 1))
    (k : W p l e R s m args below meth c H locs cells slots Q (F0 m (pc + 1) ls (.long (lI (x + y)) :: rest))) : W p l e R s m args below meth c H locs cells slots Q (F0 m pc ls (.long (lI y) :: .long (lI x) :: rest)) :=
  lv_ladd hx hb hdg (by rw [lI_add]; exact k)
theorem li_lsub (hx : p.tables.exec = Jvm.exec) (hb : c.code = cc) {x y : Int} (hdg : decode cc pc = .ok (.lsub, 1))
    (k : W p l e R s m args below meth c H locs cells slots Q (F0 m (pc + 1) ls (.long (lI (x - y)) :: rest))) : W p l e R s m args below meth c H locs cells slots Q (F0 m pc ls (.long (lI y) :: .long (lI x) :: rest)) :=
  lv_lsub hx hb hdg (by rw [lI_sub]; exact k)
theorem li_lmul (hx : p.tables.exec = Jvm.exec) (hb : c.code = cc) {x y : Int} (hdg : decode cc pc = .ok (.lmul, 1))
    (k : W p l e R s m args below meth c H locs cells slots Q (F0 m (pc + 1) ls (.long (lI (x * y)) :: rest))) : W p l e R s m args below meth c H locs cells slots Q (F0 m pc ls (.long (lI y) :: .long (lI x) :: rest)) :=
  lv_lmul hx hb hdg (by rw [lI_mul]; exact k)
theorem li_ineg (hx : p.tables.exec = Jvm.exec) (hb : c.code = cc) {x : Int} (hdg : decode cc pc = .ok (.ineg, 1))
    (k : W p l e R s m args below meth c H locs cells slots Q (F0 m (pc + 1) ls (.int (iI (-x)) :: rest))) : W p l e R s m args below meth c H locs cells slots Q (F0 m pc ls (.int (iI x) :: rest)) :=
  lv_ineg hx hb hdg (by rw [iI_neg]; exact k)
theorem li_iand255 (hx : p.tables.exec = Jvm.exec) (hb : c.code = cc) {x : Int} (hdg : decode cc pc = .ok (.iand, 1))
    (k : W p l e R s m args below meth c H locs cells slots Q (F0 m (pc + 1) ls (.int (iI (x % 256)) :: rest))) : W p l e R s m args below meth c H locs cells slots Q (F0 m pc ls (.int (iI 255) :: .int (iI x) :: rest)) :=
  lv_iand hx hb hdg (by rw [iI_and255]; exact k)
theorem li_iand127 (hx : p.tables.exec = Jvm.exec) (hb : c.code = cc) {x : Int} (hdg : decode cc pc = .ok (.iand, 1))
    (k : W p l e R s m args below meth c H locs cells slots Q (F0 m (pc + 1) ls (.int (iI (x % 128)) :: rest))) : W p l e R s m args below meth c H locs cells slots Q (F0 m pc ls (.int (iI 127) :: .int (iI x) :: rest)) :=
  lv_iand hx hb hdg (by rw [iI_and127]; exact k)
theorem li_iand31 (hx : p.tables.exec = Jvm.exec) (hb : c.code = cc) {x : Int} (hdg : decode cc pc = .ok (.iand, 1))
    (k : W p l e R s m args below meth c H locs cells slots Q (F0 m (pc + 1) ls (.int (iI (x % 32)) :: rest))) : W p l e R s m args below meth c H locs cells slots Q (F0 m pc ls (.int (iI 31) :: .int (iI x) :: rest)) :=
  lv_iand hx hb hdg (by rw [iI_and31]; exact k)
theorem li_iand15 (hx : p.tables.exec = Jvm.exec) (hb : c.code = cc) {x : Int} (hdg : decode cc pc = .ok (.iand, 1))
    (k : W p l e R s m args below meth c H locs cells slots Q (F0 m (pc + 1) ls (.int (iI (x % 16)) :: rest))) : W p l e R s m args below meth c H locs cells slots Q (F0 m pc ls (.int (iI 15) :: .int (iI x) :: rest)) :=
  lv_iand hx hb hdg (by rw [iI_and15]; exact k)
theorem li_iand32 (hx : p.tables.exec = Jvm.exec) (hb : c.code = cc) {x : Int} (hz : 0 ≤ x ∧ x < 256) (hdg : decode cc pc = .ok (.iand, 1))
    (k : W p l e R s m args below meth c H locs cells slots Q (F0 m (pc + 1) ls (.int (iI (x / 32 % 2 * 32)) :: rest))) : W p l e R s m args below meth c H locs cells slots Q (F0 m pc ls (.int (iI 32) :: .int (iI x) :: rest)) :=
  lv_iand hx hb hdg (by rw [iI_and32 hz]; exact k)
theorem li_bandb (hx : p.tables.exec = Jvm.exec) (hb : c.code = cc) {x : Int} (hdg : decode cc pc = .ok (.iand, 1))
    (k : W p l e R s m args below meth c H locs cells slots Q (F0 m (pc + 1) ls (.int (iI (x % 256)) :: rest))) : W p l e R s m args below meth c H locs cells slots Q (F0 m pc ls (.int (iI 255) :: .int (bI x) :: rest)) :=
  lv_iand hx hb hdg (by rw [bI_and]; exact k)
theorem li_ishr (hx : p.tables.exec = Jvm.exec) (hb : c.code = cc) {x y : Int} (hz : -2147483648 ≤ x ∧ x < 2147483648) (hy : 0 ≤ y ∧ y < 32) (hdg : decode cc pc = .ok (.ishr, 1))
    (k : W p l e R s m args below meth c H locs cells slots Q (F0 m (pc + 1) ls (.int (iI (x / 2 ^ y.toNat)) :: rest))) : W p l e R s m args below meth c H locs cells slots Q (F0 m pc ls (.int (iI y) :: .int (iI x) :: rest)) :=
  lv_ishr hx hb hdg (by rw [iI_shr hz hy]; exact k)
theorem li_ishrK (hx : p.tables.exec = Jvm.exec) (hb : c.code = cc) {x y : Int} (P : Int) (hP : (2 : Int) ^ y.toNat = P) (hz : -2147483648 ≤ x ∧ x < 2147483648) (hy : 0 ≤ y ∧ y < 32) (hdg : decode cc pc = .ok (.ishr, 1))
    (k : W p l e R s m args below meth c H locs cells slots Q (F0 m (pc + 1) ls (.int (iI (x / P)) :: rest))) : W p l e R s m args below meth c H locs cells slots Q (F0 m pc ls (.int (iI y) :: .int (iI x) :: rest)) :=
  li_ishr hx hb hz hy hdg (by rw [hP]; exact k)
theorem li_i2l (hx : p.tables.exec = Jvm.exec) (hb : c.code = cc) {x : Int} (hz : -2147483648 ≤ x ∧ x < 2147483648) (hdg : decode cc pc = .ok (.i2l, 1))
    (k : W p l e R s m args below meth c H locs cells slots Q (F0 m (pc + 1) ls (.long (lI x) :: rest))) : W p l e R s m args below meth c H locs cells slots Q (F0 m pc ls (.int (iI x) :: rest)) :=
  lv_i2l hx hb hdg (lI_i2l hz) k
theorem li_l2i (hx : p.tables.exec = Jvm.exec) (hb : c.code = cc) {x : Int} (hdg : decode cc pc = .ok (.l2i, 1))
    (k : W p l e R s m args below meth c H locs cells slots Q (F0 m (pc + 1) ls (.int (iI x) :: rest))) : W p l e R s m args below meth c H locs cells slots Q (F0 m pc ls (.long (lI x) :: rest)) :=
  lv_l2i hx hb hdg (iI_l2i x) k
theorem li_i2b (hx : p.tables.exec = Jvm.exec) (hb : c.code = cc) {x : Int} (hdg : decode cc pc = .ok (.i2b, 1))
    (k : W p l e R s m args below meth c H locs cells slots Q (F0 m (pc + 1) ls (.int (bI x) :: rest))) : W p l e R s m args below meth c H locs cells slots Q (F0 m pc ls (.int (iI x) :: rest)) :=
  lv_i2b hx hb hdg rfl k
theorem li_lshr (hx : p.tables.exec = Jvm.exec) (hb : c.code = cc) {x y : Int} (hz : -9223372036854775808 ≤ x ∧ x < 9223372036854775808) (hy : 0 ≤ y ∧ y < 64) (hdg : decode cc pc = .ok (.lshr, 1))
    (k : W p l e R s m args below meth c H locs cells slots Q (F0 m (pc + 1) ls (.long (lI (x / 2 ^ y.toNat)) :: rest))) : W p l e R s m args below meth c H locs cells slots Q (F0 m pc ls (.int (iI y) :: .long (lI x) :: rest)) :=
  lv_lshr hx hb hdg (lI_shr hz hy) k
theorem li_lshl8 (hx : p.tables.exec = Jvm.exec) (hb : c.code = cc) {x : Int} (hdg : decode cc pc = .ok (.lshl, 1))
    (k : W p l e R s m args below meth c H locs cells slots Q (F0 m (pc + 1) ls (.long (lI (x * 256)) :: rest))) : W p l e R s m args below meth c H locs cells slots Q (F0 m pc ls (.int (iI 8) :: .long (lI x) :: rest)) :=
  lv_lshl hx hb hdg (lI_shl8 x) k
theorem li_lor8 (hx : p.tables.exec = Jvm.exec) (hb : c.code = cc) {x y : Int} (hy : 0 ≤ y ∧ y < 256) (hdg : decode cc pc = .ok (.lor, 1))
    (k : W p l e R s m args below meth c H locs cells slots Q (F0 m (pc + 1) ls (.long (lI (x * 256 + y)) :: rest))) : W p l e R s m args below meth c H locs cells slots Q (F0 m pc ls (.long (lI y) :: .long (lI (x * 256)) :: rest)) :=
  lv_lor hx hb hdg (by rw [lI_or8 x hy]; exact k)
theorem li_nm {x : Int} (k : ∀ z : Int, z = x → W p l e R s m args below meth c H locs cells slots Q (F0 m pc ls (.int (iI z) :: rest))) : W p l e R s m args below meth c H locs cells slots Q (F0 m pc ls (.int (iI x) :: rest)) := k x rfl
theorem li_nml {x : Int} (k : ∀ z : Int, z = x → W p l e R s m args below meth c H locs cells slots Q (F0 m pc ls (.long (lI z) :: rest))) : W p l e R s m args below meth c H locs cells slots Q (F0 m pc ls (.long (lI x) :: rest)) := k x rfl
theorem li_re {x y : Int} (h : x = y) (k : W p l e R s m args below meth c H locs cells slots Q (F0 m pc ls (.int (iI y) :: rest))) : W p l e R s m args below meth c H locs cells slots Q (F0 m pc ls (.int (iI x) :: rest)) := by rw [h]; exact k
theorem li_icmp_eq (hx : p.tables.exec = Jvm.exec) (hb : c.code = cc) {x y off : Int} {tgt : Nat} (hz : -2147483648 ≤ x ∧ x < 2147483648) (hy : -2147483648 ≤ y ∧ y < 2147483648) (hdg : decode cc pc = .ok (.if_icmp .eq off, 3)) (ht : (pc : Int) + off = (tgt : Int))
    (kt : x = y → W p l e R s m args below meth c H locs cells slots Q (F0 m tgt ls rest)) (kf : ¬ x = y → W p l e R s m args below meth c H locs cells slots Q (F0 m (pc + 3) ls rest)) : W p l e R s m args below meth c H locs cells slots Q (F0 m pc ls (.int (iI y) :: .int (iI x) :: rest)) :=
  lv_icmp_eq hx hb hdg ht (fun h => kt ((iI_eq hz hy).mp h)) (fun h => kf (fun q => h ((iI_eq hz hy).mpr q)))
theorem li_if_eq (hx : p.tables.exec = Jvm.exec) (hb : c.code = cc) {x off : Int} {tgt : Nat} (hz : -2147483648 ≤ x ∧ x < 2147483648) (hdg : decode cc pc = .ok (.ifCond .eq off, 3)) (ht : (pc : Int) + off = (tgt : Int))
    (kt : x = 0 → W p l e R s m args below meth c H locs cells slots Q (F0 m tgt ls rest)) (kf : ¬ x = 0 → W p l e R s m args below meth c H locs cells slots Q (F0 m (pc + 3) ls rest)) : W p l e R s m args below meth c H locs cells slots Q (F0 m pc ls (.int (iI x) :: rest)) := by
  refine lv_if_eq hx hb hdg ht (fun h => ?_) (fun h => ?_)
  · rw [← iI_0] at h; exact (fun h => kt ((iI_eq hz iI_ok0).mp h)) h
  · rw [← iI_0] at h; exact (fun h => kf (fun q => h ((iI_eq hz iI_ok0).mpr q))) h
theorem li_icmp_ne (hx : p.tables.exec = Jvm.exec) (hb : c.code = cc) {x y off : Int} {tgt : Nat} (hz : -2147483648 ≤ x ∧ x < 2147483648) (hy : -2147483648 ≤ y ∧ y < 2147483648) (hdg : decode cc pc = .ok (.if_icmp .ne off, 3)) (ht : (pc : Int) + off = (tgt : Int))
    (kt : ¬ x = y → W p l e R s m args below meth c H locs cells slots Q (F0 m tgt ls rest)) (kf : x = y → W p l e R s m args below meth c H locs cells slots Q (F0 m (pc + 3) ls rest)) : W p l e R s m args below meth c H locs cells slots Q (F0 m pc ls (.int (iI y) :: .int (iI x) :: rest)) :=
  lv_icmp_ne hx hb hdg ht (fun h => kt (fun q => h ((iI_eq hz hy).mpr q))) (fun h => kf ((iI_eq hz hy).mp h))
theorem li_if_ne (hx : p.tables.exec = Jvm.exec) (hb : c.code = cc) {x off : Int} {tgt : Nat} (hz : -2147483648 ≤ x ∧ x < 2147483648) (hdg : decode cc pc = .ok (.ifCond .ne off, 3)) (ht : (pc : Int) + off = (tgt : Int))
    (kt : ¬ x = 0 → W p l e R s m args below meth c H locs cells slots Q (F0 m tgt ls rest)) (kf : x = 0 → W p l e R s m args below meth c H locs cells slots Q (F0 m (pc + 3) ls rest)) : W p l e R s m args below meth c H locs cells slots Q (F0 m pc ls (.int (iI x) :: rest)) := by
  refine lv_if_ne hx hb hdg ht (fun h => ?_) (fun h => ?_)
  · rw [← iI_0] at h; exact (fun h => kt (fun q => h ((iI_eq hz iI_ok0).mpr q))) h
  · rw [← iI_0] at h; exact (fun h => kf ((iI_eq hz iI_ok0).mp h)) h
theorem li_icmp_lt (hx : p.tables.exec = Jvm.exec) (hb : c.code = cc) {x y off : Int} {tgt : Nat} (hz : -2147483648 ≤ x ∧ x < 2147483648) (hy : -2147483648 ≤ y ∧ y < 2147483648) (hdg : decode cc pc = .ok (.if_icmp .lt off, 3)) (ht : (pc : Int) + off = (tgt : Int))
    (kt : x < y → W p l e R s m args below meth c H locs cells slots Q (F0 m tgt ls rest)) (kf : y ≤ x → W p l e R s m args below meth c H locs cells slots Q (F0 m (pc + 3) ls rest)) : W p l e R s m args below meth c H locs cells slots Q (F0 m pc ls (.int (iI y) :: .int (iI x) :: rest)) :=
  lv_icmp_lt hx hb hdg ht (fun h => kt ((iI_lt hz hy).mp h)) (fun h => kf (Int.not_lt.mp (fun q => h ((iI_lt hz hy).mpr q))))
theorem li_if_lt (hx : p.tables.exec = Jvm.exec) (hb : c.code = cc) {x off : Int} {tgt : Nat} (hz : -2147483648 ≤ x ∧ x < 2147483648) (hdg : decode cc pc = .ok (.ifCond .lt off, 3)) (ht : (pc : Int) + off = (tgt : Int))
    (kt : x < 0 → W p l e R s m args below meth c H locs cells slots Q (F0 m tgt ls rest)) (kf : 0 ≤ x → W p l e R s m args below meth c H locs cells slots Q (F0 m (pc + 3) ls rest)) : W p l e R s m args below meth c H locs cells slots Q (F0 m pc ls (.int (iI x) :: rest)) := by
  refine lv_if_lt hx hb hdg ht (fun h => ?_) (fun h => ?_)
  · rw [← iI_0] at h; exact (fun h => kt ((iI_lt hz iI_ok0).mp h)) h
  · rw [← iI_0] at h; exact (fun h => kf (Int.not_lt.mp (fun q => h ((iI_lt hz iI_ok0).mpr q)))) h
theorem li_icmp_ge (hx : p.tables.exec = Jvm.exec) (hb : c.code = cc) {x y off : Int} {tgt : Nat} (hz : -2147483648 ≤ x ∧ x < 2147483648) (hy : -2147483648 ≤ y ∧ y < 2147483648) (hdg : decode cc pc = .ok (.if_icmp .ge off, 3)) (ht : (pc : Int) + off = (tgt : Int))
    (kt : y ≤ x → W p l e R s m args below meth c H locs cells slots Q (F0 m tgt ls rest)) (kf : x < y → W p l e R s m args below meth c H locs cells slots Q (F0 m (pc + 3) ls rest)) : W p l e R s m args below meth c H locs cells slots Q (F0 m pc ls (.int (iI y) :: .int (iI x) :: rest)) :=
  lv_icmp_ge hx hb hdg ht (fun h => kt ((iI_le hy hz).mp h)) (fun h => kf (Int.not_le.mp (fun q => h ((iI_le hy hz).mpr q))))
theorem li_if_ge (hx : p.tables.exec = Jvm.exec) (hb : c.code = cc) {x off : Int} {tgt : Nat} (hz : -2147483648 ≤ x ∧ x < 2147483648) (hdg : decode cc pc = .ok (.ifCond .ge off, 3)) (ht : (pc : Int) + off = (tgt : Int))
    (kt : 0 ≤ x → W p l e R s m args below meth c H locs cells slots Q (F0 m tgt ls rest)) (kf : x < 0 → W p l e R s m args below meth c H locs cells slots Q (F0 m (pc + 3) ls rest)) : W p l e R s m args below meth c H locs cells slots Q (F0 m pc ls (.int (iI x) :: rest)) := by
  refine lv_if_ge hx hb hdg ht (fun h => ?_) (fun h => ?_)
  · rw [← iI_0] at h; exact (fun h => kt ((iI_le iI_ok0 hz).mp h)) h
  · rw [← iI_0] at h; exact (fun h => kf (Int.not_le.mp (fun q => h ((iI_le iI_ok0 hz).mpr q)))) h
theorem li_icmp_gt (hx : p.tables.exec = Jvm.exec) (hb : c.code = cc) {x y off : Int} {tgt : Nat} (hz : -2147483648 ≤ x ∧ x < 2147483648) (hy : -2147483648 ≤ y ∧ y < 2147483648) (hdg : decode cc pc = .ok (.if_icmp .gt off, 3)) (ht : (pc : Int) + off = (tgt : Int))
    (kt : y < x → W p l e R s m args below meth c H locs cells slots Q (F0 m tgt ls rest)) (kf : x ≤ y → W p l e R s m args below meth c H locs cells slots Q (F0 m (pc + 3) ls rest)) : W p l e R s m args below meth c H locs cells slots Q (F0 m pc ls (.int (iI y) :: .int (iI x) :: rest)) :=
  lv_icmp_gt hx hb hdg ht (fun h => kt ((iI_lt hy hz).mp h)) (fun h => kf (Int.not_lt.mp (fun q => h ((iI_lt hy hz).mpr q))))
theorem li_if_gt (hx : p.tables.exec = Jvm.exec) (hb : c.code = cc) {x off : Int} {tgt : Nat} (hz : -2147483648 ≤ x ∧ x < 2147483648) (hdg : decode cc pc = .ok (.ifCond .gt off, 3)) (ht : (pc : Int) + off = (tgt : Int))
    (kt : 0 < x → W p l e R s m args below meth c H locs cells slots Q (F0 m tgt ls rest)) (kf : x ≤ 0 → W p l e R s m args below meth c H locs cells slots Q (F0 m (pc + 3) ls rest)) : W p l e R s m args below meth c H locs cells slots Q (F0 m pc ls (.int (iI x) :: rest)) := by
  refine lv_if_gt hx hb hdg ht (fun h => ?_) (fun h => ?_)
  · rw [← iI_0] at h; exact (fun h => kt ((iI_lt iI_ok0 hz).mp h)) h
  · rw [← iI_0] at h; exact (fun h => kf (Int.not_lt.mp (fun q => h ((iI_lt iI_ok0 hz).mpr q)))) h
theorem li_icmp_le (hx : p.tables.exec = Jvm.exec) (hb : c.code = cc) {x y off : Int} {tgt : Nat} (hz : -2147483648 ≤ x ∧ x < 2147483648) (hy : -2147483648 ≤ y ∧ y < 2147483648) (hdg : decode cc pc = .ok (.if_icmp .le off, 3)) (ht : (pc : Int) + off = (tgt : Int))
    (kt : x ≤ y → W p l e R s m args below meth c H locs cells slots Q (F0 m tgt ls rest)) (kf : y < x → W p l e R s m args below meth c H locs cells slots Q (F0 m (pc + 3) ls rest)) : W p l e R s m args below meth c H locs cells slots Q (F0 m pc ls (.int (iI y) :: .int (iI x) :: rest)) :=
  lv_icmp_le hx hb hdg ht (fun h => kt ((iI_le hz hy).mp h)) (fun h => kf (Int.not_le.mp (fun q => h ((iI_le hz hy).mpr q))))
theorem li_if_le (hx : p.tables.exec = Jvm.exec) (hb : c.code = cc) {x off : Int} {tgt : Nat} (hz : -2147483648 ≤ x ∧ x < 2147483648) (hdg : decode cc pc = .ok (.ifCond .le off, 3)) (ht : (pc : Int) + off = (tgt : Int))
    (kt : x ≤ 0 → W p l e R s m args below meth c H locs cells slots Q (F0 m tgt ls rest)) (kf : 0 < x → W p l e R s m args below meth c H locs cells slots Q (F0 m (pc + 3) ls rest)) : W p l e R s m args below meth c H locs cells slots Q (F0 m pc ls (.int (iI x) :: rest)) := by
  refine lv_if_le hx hb hdg ht (fun h => ?_) (fun h => ?_)
  · rw [← iI_0] at h; exact (fun h => kt ((iI_le hz iI_ok0).mp h)) h
  · rw [← iI_0] at h; exact (fun h => kf (Int.not_le.mp (fun q => h ((iI_le hz iI_ok0).mpr q)))) h
theorem li_lcmp_eq (hx : p.tables.exec = Jvm.exec) (hb : c.code = cc) {x y off : Int} {tgt : Nat} (hz : -9223372036854775808 ≤ x ∧ x < 9223372036854775808) (hy : -9223372036854775808 ≤ y ∧ y < 9223372036854775808) (hd1 : decode cc pc = .ok (.lcmp, 1)) (hdg : decode cc (pc + 1) = .ok (.ifCond .eq off, 3)) (ht : ((pc + 1 : Nat) : Int) + off = (tgt : Int))
    (kt : x = y → W p l e R s m args below meth c H locs cells slots Q (F0 m tgt ls rest)) (kf : ¬ x = y → W p l e R s m args below meth c H locs cells slots Q (F0 m (pc + 4) ls rest)) : W p l e R s m args below meth c H locs cells slots Q (F0 m pc ls (.long (lI y) :: .long (lI x) :: rest)) :=
  W.lcmp hx hb hd1 (lv_if_eq hx hb hdg ht (fun h => kt ((lc_eq hz hy).mp h)) (fun h => kf (fun q => h ((lc_eq hz hy).mpr q))))
theorem li_lcmp_ne (hx : p.tables.exec = Jvm.exec) (hb : c.code = cc) {x y off : Int} {tgt : Nat} (hz : -9223372036854775808 ≤ x ∧ x < 9223372036854775808) (hy : -9223372036854775808 ≤ y ∧ y < 9223372036854775808) (hd1 : decode cc pc = .ok (.lcmp, 1)) (hdg : decode cc (pc + 1) = .ok (.ifCond .ne off, 3)) (ht : ((pc + 1 : Nat) : Int) + off = (tgt : Int))
    (kt : ¬ x = y → W p l e R s m args below meth c H locs cells slots Q (F0 m tgt ls rest)) (kf : x = y → W p l e R s m args below meth c H locs cells slots Q (F0 m (pc + 4) ls rest)) : W p l e R s m args below meth c H locs cells slots Q (F0 m pc ls (.long (lI y) :: .long (lI x) :: rest)) :=
  W.lcmp hx hb hd1 (lv_if_ne hx hb hdg ht (fun h => kt (fun q => h ((lc_eq hz hy).mpr q))) (fun h => kf ((lc_eq hz hy).mp h)))
theorem li_lcmp_lt (hx : p.tables.exec = Jvm.exec) (hb : c.code = cc) {x y off : Int} {tgt : Nat} (hz : -9223372036854775808 ≤ x ∧ x < 9223372036854775808) (hy : -9223372036854775808 ≤ y ∧ y < 9223372036854775808) (hd1 : decode cc pc = .ok (.lcmp, 1)) (hdg : decode cc (pc + 1) = .ok (.ifCond .lt off, 3)) (ht : ((pc + 1 : Nat) : Int) + off = (tgt : Int))
    (kt : x < y → W p l e R s m args below meth c H locs cells slots Q (F0 m tgt ls rest)) (kf : y ≤ x → W p l e R s m args below meth c H locs cells slots Q (F0 m (pc + 4) ls rest)) : W p l e R s m args below meth c H locs cells slots Q (F0 m pc ls (.long (lI y) :: .long (lI x) :: rest)) :=
  W.lcmp hx hb hd1 (lv_if_lt hx hb hdg ht (fun h => kt ((lc_lt hz hy).mp h)) (fun h => kf (Int.not_lt.mp (fun q => h ((lc_lt hz hy).mpr q)))))
theorem li_lcmp_ge (hx : p.tables.exec = Jvm.exec) (hb : c.code = cc) {x y off : Int} {tgt : Nat} (hz : -9223372036854775808 ≤ x ∧ x < 9223372036854775808) (hy : -9223372036854775808 ≤ y ∧ y < 9223372036854775808) (hd1 : decode cc pc = .ok (.lcmp, 1)) (hdg : decode cc (pc + 1) = .ok (.ifCond .ge off, 3)) (ht : ((pc + 1 : Nat) : Int) + off = (tgt : Int))
    (kt : y ≤ x → W p l e R s m args below meth c H locs cells slots Q (F0 m tgt ls rest)) (kf : x < y → W p l e R s m args below meth c H locs cells slots Q (F0 m (pc + 4) ls rest)) : W p l e R s m args below meth c H locs cells slots Q (F0 m pc ls (.long (lI y) :: .long (lI x) :: rest)) :=
  W.lcmp hx hb hd1 (lv_if_ge hx hb hdg ht (fun h => kt ((lc_ge hz hy).mp h)) (fun h => kf (Int.not_le.mp (fun q => h ((lc_ge hz hy).mpr q)))))
theorem li_lcmp_gt (hx : p.tables.exec = Jvm.exec) (hb : c.code = cc) {x y off : Int} {tgt : Nat} (hz : -9223372036854775808 ≤ x ∧ x < 9223372036854775808) (hy : -9223372036854775808 ≤ y ∧ y < 9223372036854775808) (hd1 : decode cc pc = .ok (.lcmp, 1)) (hdg : decode cc (pc + 1) = .ok (.ifCond .gt off, 3)) (ht : ((pc + 1 : Nat) : Int) + off = (tgt : Int))
    (kt : y < x → W p l e R s m args below meth c H locs cells slots Q (F0 m tgt ls rest)) (kf : x ≤ y → W p l e R s m args below meth c H locs cells slots Q (F0 m (pc + 4) ls rest)) : W p l e R s m args below meth c H locs cells slots Q (F0 m pc ls (.long (lI y) :: .long (lI x) :: rest)) :=
  W.lcmp hx hb hd1 (lv_if_gt hx hb hdg ht (fun h => kt ((lc_gt hz hy).mp h)) (fun h => kf (Int.not_lt.mp (fun q => h ((lc_gt hz hy).mpr q)))))
theorem li_lcmp_le (hx : p.tables.exec = Jvm.exec) (hb : c.code = cc) {x y off : Int} {tgt : Nat} (hz : -9223372036854775808 ≤ x ∧ x < 9223372036854775808) (hy : -9223372036854775808 ≤ y ∧ y < 9223372036854775808) (hd1 : decode cc pc = .ok (.lcmp, 1)) (hdg : decode cc (pc + 1) = .ok (.ifCond .le off, 3)) (ht : ((pc + 1 : Nat) : Int) + off = (tgt : Int))
    (kt : x ≤ y → W p l e R s m args below meth c H locs cells slots Q (F0 m tgt ls rest)) (kf : y < x → W p l e R s m args below meth c H locs cells slots Q (F0 m (pc + 4) ls rest)) : W p l e R s m args below meth c H locs cells slots Q (F0 m pc ls (.long (lI y) :: .long (lI x) :: rest)) :=
  W.lcmp hx hb hd1 (lv_if_le hx hb hdg ht (fun h => kt ((lc_le hz hy).mp h)) (fun h => kf (Int.not_le.mp (fun q => h ((lc_le hz hy).mpr q)))))
theorem li_alen (hx : p.tables.exec = Jvm.exec) (hb : c.code = cc) (hK : va_K D cl tys s) (hP : va_P D cl ws H) (q0 t0 : Nat) {cA : ClassId} {n : Nat} {z : (Nat → Int32) ⊕ (Nat → Int64) ⊕ (Nat → UInt32) ⊕ (Nat → UInt64) ⊕ (Nat → Option Nat)} (ha : ws[q0]? = some (a, .inl (cA, n, z))) {ty : FieldType} (ht : tys[t0]? = some (cA, ty)) (hdg : decode cc pc = .ok (.arraylength, 1))
    (k : W p l e R s m args below meth c H locs cells slots Q (F0 m (pc + 1) ls (.int (iI (n : Int)) :: rest))) : W p l e R s m args below meth c H locs cells slots Q (F0 m pc ls (.ref a :: rest)) :=
  va_alen hx hb hK hP q0 t0 ha ht (v := iI (n : Int)) (iI_nI n) hdg k
theorem li_bald (hx : p.tables.exec = Jvm.exec) (hb : c.code = cc) (hK : va_K D cl tys s) (hP : va_P D cl ws H) (q0 t0 : Nat) {cA : ClassId} {n : Nat} {f : Nat → Int} (ha : ws[q0]? = some (a, .inl (cA, n, .inl (fun j => bI (f j))))) (ht : tys[t0]? = some (cA, .byte)) {z : Int} (hz : 0 ≤ z ∧ z < n) (hn : n < 2147483648) (hdg : decode cc pc = .ok (.baload, 1))
    (k : W p l e R s m args below meth c H locs cells slots Q (F0 m (pc + 1) ls (.int (bI (f z.toNat)) :: rest))) : W p l e R s m args below meth c H locs cells slots Q (F0 m pc ls (.int (iI z) :: .ref a :: rest)) :=
  va_bald hx hb hK hP q0 t0 ha ht (iI_in hz hn) hdg (by rw [iI_clamp (by omega)]; exact k)
theorem li_iald (hx : p.tables.exec = Jvm.exec) (hb : c.code = cc) (hK : va_K D cl tys s) (hP : va_P D cl ws H) (q0 t0 : Nat) {cA : ClassId} {n : Nat} {f : Nat → Int} (ha : ws[q0]? = some (a, .inl (cA, n, .inl (fun j => iI (f j))))) (ht : tys[t0]? = some (cA, .int)) {z : Int} (hz : 0 ≤ z ∧ z < n) (hn : n < 2147483648) (hdg : decode cc pc = .ok (.iaload, 1))
    (k : W p l e R s m args below meth c H locs cells slots Q (F0 m (pc + 1) ls (.int (iI (f z.toNat)) :: rest))) : W p l e R s m args below meth c H locs cells slots Q (F0 m pc ls (.int (iI z) :: .ref a :: rest)) :=
  va_iald hx hb hK hP q0 t0 ha ht (iI_in hz hn) hdg (by rw [iI_clamp (by omega)]; exact k)
theorem li_bast (hx : p.tables.exec = Jvm.exec) (hb : c.code = cc) (hK : va_K D cl tys s) (hP : va_P D cl ws H) (hD : va_D A ws) (hS : va_S A H0 H locs) (q0 t0 : Nat) {cA : ClassId} {n : Nat} {f : Nat → Int} (ha : ws[q0]? = some (a, .inl (cA, n, .inl (fun j => bI (f j))))) (ht : tys[t0]? = some (cA, .byte)) {z x : Int} (hz : 0 ≤ z ∧ z < n) (hn : n < 2147483648) (hdg : decode cc pc = .ok (.bastore, 1))
    (kk : ∀ (H1 : Heap) (locs1 : List Loc), va_P D cl (ws.set q0 (a, .inl (cA, n, .inl (fun j => bI (vf_upd f z.toNat x j))))) H1 → va_D A (ws.set q0 (a, .inl (cA, n, .inl (fun j => bI (vf_upd f z.toNat x j))))) → va_S A H0 H1 locs1 → W p l e R s m args below meth c H1 locs1 cells slots Q (F0 m (pc + 1) ls rest)) : W p l e R s m args below meth c H locs cells slots Q (F0 m pc ls (.int (bI x) :: .int (iI z) :: .ref a :: rest)) :=
  va_bast hx hb hK hP hD hS q0 t0 ha ht (iI_in hz hn) hdg (fun H1 locs1 h1 h2 h3 => by rw [iI_clamp (by omega), bI_upd] at h1 h2; exact kk H1 locs1 h1 h2 h3)
theorem li_iast (hx : p.tables.exec = Jvm.exec) (hb : c.code = cc) (hK : va_K D cl tys s) (hP : va_P D cl ws H) (hD : va_D A ws) (hS : va_S A H0 H locs) (q0 t0 : Nat) {cA : ClassId} {n : Nat} {f : Nat → Int} (ha : ws[q0]? = some (a, .inl (cA, n, .inl (fun j => iI (f j))))) (ht : tys[t0]? = some (cA, .int)) {z x : Int} (hz : 0 ≤ z ∧ z < n) (hn : n < 2147483648) (hdg : decode cc pc = .ok (.iastore, 1))
    (kk : ∀ (H1 : Heap) (locs1 : List Loc), va_P D cl (ws.set q0 (a, .inl (cA, n, .inl (fun j => iI (vf_upd f z.toNat x j))))) H1 → va_D A (ws.set q0 (a, .inl (cA, n, .inl (fun j => iI (vf_upd f z.toNat x j))))) → va_S A H0 H1 locs1 → W p l e R s m args below meth c H1 locs1 cells slots Q (F0 m (pc + 1) ls rest)) : W p l e R s m args below meth c H locs cells slots Q (F0 m pc ls (.int (iI x) :: .int (iI z) :: .ref a :: rest)) :=
  va_iast hx hb hK hP hD hS q0 t0 ha ht (iI_in hz hn) hdg (fun H1 locs1 h1 h2 h3 => by rw [iI_clamp (by omega), iI_upd] at h1 h2; exact kk H1 locs1 h1 h2 h3)
theorem li_mmin (hx : p.tables.exec = Jvm.exec) (hb : c.code = cc) (hml : c.maxLocals = ls.size) {own : String} {index : Nat} (hown : s.vm.findClass own = some m.cls) (hlink : (Cond.methodLink own index Lib.Math.min.name).before args s = true) (hstat : (Cond.static Lib.Math.min.name).before args s = true) (hini : (Cond.initialized "java/lang/Math").before args s = true) (hcode : (Cond.code Lib.Math.min.name Lib.Math.min.code 2 (some .int)).before args s = true)
    (hframes : 1 ≤ R.frames) (hlocals : (rest.map fun v => v.category).sum + 13 ≤ R.locals) (hc : cells ≤ R.cells) (hs : slots ≤ R.slots) {x y : Int} (hz : -2147483648 ≤ x ∧ x < 2147483648) (hy : -2147483648 ≤ y ∧ y < 2147483648) (hdg : decode cc pc = .ok (.invokestatic index, 3))
    (k : W p l e R s m args below meth c H locs cells slots Q (F0 m (pc + 3) ls (.int (iI (min x y)) :: rest))) : W p l e R s m args below meth c H locs cells slots Q (F0 m pc ls (.int (iI y) :: .int (iI x) :: rest)) :=
  va_mmin hx hb hml hown hlink hstat hini hcode hframes hlocals hc hs hdg (by rw [iI_min hz hy]; exact k)
theorem li_mmax (hx : p.tables.exec = Jvm.exec) (hb : c.code = cc) (hml : c.maxLocals = ls.size) {own : String} {index : Nat} (hown : s.vm.findClass own = some m.cls) (hlink : (Cond.methodLink own index Lib.Math.max.name).before args s = true) (hstat : (Cond.static Lib.Math.max.name).before args s = true) (hini : (Cond.initialized "java/lang/Math").before args s = true) (hcode : (Cond.code Lib.Math.max.name Lib.Math.max.code 2 (some .int)).before args s = true)
    (hframes : 1 ≤ R.frames) (hlocals : (rest.map fun v => v.category).sum + 13 ≤ R.locals) (hc : cells ≤ R.cells) (hs : slots ≤ R.slots) {x y : Int} (hz : -2147483648 ≤ x ∧ x < 2147483648) (hy : -2147483648 ≤ y ∧ y < 2147483648) (hdg : decode cc pc = .ok (.invokestatic index, 3))
    (k : W p l e R s m args below meth c H locs cells slots Q (F0 m (pc + 3) ls (.int (iI (max x y)) :: rest))) : W p l e R s m args below meth c H locs cells slots Q (F0 m pc ls (.int (iI y) :: .int (iI x) :: rest)) :=
  va_mmax hx hb hml hown hlink hstat hini hcode hframes hlocals hc hs hdg (by rw [iI_max hz hy]; exact k)
theorem li_copyb (hx : p.tables.exec = Jvm.exec) (hb : c.code = cc) (hml : c.maxLocals = ls.size) {own : String} {index : Nat} (hown : s.vm.findClass own = some m.cls) (hlink : (Cond.methodLink own index arraycopyName).before args s = true) (hnat : (Cond.native arraycopyName).before args s = true) (hstat : (Cond.static arraycopyName).before args s = true) (hini : (Cond.initialized "java/lang/System").before args s = true)
    (hK : va_K D cl tys s) (hP : va_P D cl ws H) (hD : va_D A ws) (hS : va_S A H0 H locs) (q0 q1 t0 t1 : Nat) {a0 : Nat} {c0 c1 : ClassId} {n0 n1 : Nat} {f g : Nat → Int} (ha0 : ws[q0]? = some (a0, .inl (c0, n0, .inl (fun j => bI (f j))))) (ha1 : ws[q1]? = some (a, .inl (c1, n1, .inl (fun j => bI (g j))))) (ht0 : tys[t0]? = some (c0, .byte)) (ht1 : tys[t1]? = some (c1, .byte))
    {sp dp n : Int} (h1 : 0 ≤ sp ∧ 0 ≤ n ∧ sp + n ≤ n0) (h2 : 0 ≤ dp ∧ dp + n ≤ n1) (hn0 : n0 < 2147483648) (hn1 : n1 < 2147483648)
    (hframes : 1 ≤ R.frames) (hlocals : (rest.map fun v => v.category).sum + (nativeFrameWords "java/lang/System" "arraycopy" 5 + 11) ≤ R.locals) (hdg : decode cc pc = .ok (.invokestatic index, 3))
    (kk : ∀ (H1 : Heap) (locs1 : List Loc), va_P D cl (ws.set q1 (a, .inl (c1, n1, .inl (fun j => bI (va_cpy f g sp.toNat dp.toNat n.toNat j))))) H1 → va_D A (ws.set q1 (a, .inl (c1, n1, .inl (fun j => bI (va_cpy f g sp.toNat dp.toNat n.toNat j))))) → va_S A H0 H1 locs1 → W p l e R s m args below meth c H1 locs1 cells slots Q (F0 m (pc + 3) ls rest)) : W p l e R s m args below meth c H locs cells slots Q (F0 m pc ls (.int (iI n) :: .int (iI dp) :: .ref a :: .int (iI sp) :: .ref a0 :: rest)) := by
  have e1 : (iI sp).toNatClampNeg = sp.toNat := iI_clamp (by omega)
  have e2 : (iI dp).toNatClampNeg = dp.toNat := iI_clamp (by omega)
  have e3 : (iI n).toNatClampNeg = n.toNat := iI_clamp (by omega)
  have nn : ∀ z : Int, 0 ≤ z ∧ z < 2147483648 → ¬ iI z < 0 := fun z hz => by rw [← iI_0, iI_lt (by omega) (by omega)]; omega
  refine va_copyi hx hb hml hown hlink hnat hstat hini hK hP hD hS q0 q1 t0 t1 ha0 ha1 ht0 ht1 rfl (nn sp (by omega)) (nn dp (by omega)) (nn n (by omega)) (by rw [e1, e3]; omega) (by rw [e2, e3]; omega) (fun i hi => bI_fit _) hframes hlocals hdg (fun H1 locs1 p1 p2 p3 => ?_)
  rw [e1, e2, e3, bI_cpy] at p1 p2
  exact kk H1 locs1 p1 p2 p3
theorem li_copyi (hx : p.tables.exec = Jvm.exec) (hb : c.code = cc) (hml : c.maxLocals = ls.size) {own : String} {index : Nat} (hown : s.vm.findClass own = some m.cls) (hlink : (Cond.methodLink own index arraycopyName).before args s = true) (hnat : (Cond.native arraycopyName).before args s = true) (hstat : (Cond.static arraycopyName).before args s = true) (hini : (Cond.initialized "java/lang/System").before args s = true)
    (hK : va_K D cl tys s) (hP : va_P D cl ws H) (hD : va_D A ws) (hS : va_S A H0 H locs) (q0 q1 t0 t1 : Nat) {a0 : Nat} {c0 c1 : ClassId} {n0 n1 : Nat} {f g : Nat → Int} (ha0 : ws[q0]? = some (a0, .inl (c0, n0, .inl (fun j => iI (f j))))) (ha1 : ws[q1]? = some (a, .inl (c1, n1, .inl (fun j => iI (g j))))) (ht0 : tys[t0]? = some (c0, .int)) (ht1 : tys[t1]? = some (c1, .int))
    {sp dp n : Int} (h1 : 0 ≤ sp ∧ 0 ≤ n ∧ sp + n ≤ n0) (h2 : 0 ≤ dp ∧ dp + n ≤ n1) (hn0 : n0 < 2147483648) (hn1 : n1 < 2147483648)
    (hframes : 1 ≤ R.frames) (hlocals : (rest.map fun v => v.category).sum + (nativeFrameWords "java/lang/System" "arraycopy" 5 + 11) ≤ R.locals) (hdg : decode cc pc = .ok (.invokestatic index, 3))
    (kk : ∀ (H1 : Heap) (locs1 : List Loc), va_P D cl (ws.set q1 (a, .inl (c1, n1, .inl (fun j => iI (va_cpy f g sp.toNat dp.toNat n.toNat j))))) H1 → va_D A (ws.set q1 (a, .inl (c1, n1, .inl (fun j => iI (va_cpy f g sp.toNat dp.toNat n.toNat j))))) → va_S A H0 H1 locs1 → W p l e R s m args below meth c H1 locs1 cells slots Q (F0 m (pc + 3) ls rest)) : W p l e R s m args below meth c H locs cells slots Q (F0 m pc ls (.int (iI n) :: .int (iI dp) :: .ref a :: .int (iI sp) :: .ref a0 :: rest)) := by
  have e1 : (iI sp).toNatClampNeg = sp.toNat := iI_clamp (by omega)
  have e2 : (iI dp).toNatClampNeg = dp.toNat := iI_clamp (by omega)
  have e3 : (iI n).toNatClampNeg = n.toNat := iI_clamp (by omega)
  have nn : ∀ z : Int, 0 ≤ z ∧ z < 2147483648 → ¬ iI z < 0 := fun z hz => by rw [← iI_0, iI_lt (by omega) (by omega)]; omega
  refine va_copyi hx hb hml hown hlink hnat hstat hini hK hP hD hS q0 q1 t0 t1 ha0 ha1 ht0 ht1 rfl (nn sp (by omega)) (nn dp (by omega)) (nn n (by omega)) (by rw [e1, e3]; omega) (by rw [e2, e3]; omega) (fun i hi => rfl) hframes hlocals hdg (fun H1 locs1 p1 p2 p3 => ?_)
  rw [e1, e2, e3, iI_cpy] at p1 p2
  exact kk H1 locs1 p1 p2 p3
end LI
end
section
/-! contracts that say in their post what they have made (k cells, n slots), so that what is made can be counted over a whole life -/
def mv_Met (l : Launch) (y : MethodName) (ws : List Cond) (rm : Room) (Pc : Array Value → State → Prop) (Qc : Array Value → State → Outcome → State → Nat → Nat → Prop) (free : Addr → Prop) : Prop :=
  MetFree l y (headSpec ws rm) Pc (fun _ _ _ _ _ => True) (fun a st o t => ∃ (L : List Loc) (k n : Nat), Qc a st o t k n ∧ FrameEnd st o t L k n ∧ ∀ q ∈ L, free q.base)
def mv_Post (Qc : Array Value → State → Outcome → State → Nat → Nat → Prop) (free : Addr → Prop) : Pt → Array Value → Option Value → Pt → Prop := fun A a v B =>
  ∃ (g : JFrame) (mk : MethodId) (t : State) (L : List Loc) (k n : Nat), B.U.heap = t.heap ∧ B.U.vm = t.vm ∧ Qc a (A.U.calling g mk a) (.returned v) t k n ∧ B.locs = A.locs ++ L ∧ (∀ q ∈ L, free q.base) ∧ B.cells = A.cells + k ∧ B.slots = A.slots + n
def mv_MQ (below : List Frame) (Qc : Array Value → State → Outcome → State → Nat → Nat → Prop) (a : Array Value) (s : State) (free : Addr → Prop) : State → Prop := fun t =>
  ∃ o, t.status = .running ∧ Ended t below o ∧ ∃ (L : List Loc) (k n : Nat), Qc a s o t k n ∧ FrameEnd s o t L k n ∧ ∀ q ∈ L, free q.base
def mv_Q {S : Type} (post : Option Value → S → Nat → Nat → Prop) (B : S → State → Prop) (A : Nat → Prop) : Array Value → State → Outcome → State → Nat → Nat → Prop := fun _ st oc t k n =>
  (∃ (v : Option Value) (u : S), oc = .returned v ∧ post v u k n ∧ B u t) ∧ va_F A st t
section MVB
variable {l : Launch} {R : Room} {p : Program} {e : Env} {below : List Frame} {s : State} {sargs : Array Value} {y : MethodName} {len w8 : Nat}
theorem mv_back {ws : List Cond} {rm : Room} {Pc : Array Value → State → Prop} {Qc : Array Value → State → Outcome → State → Nat → Nat → Prop} {free : Addr → Prop} {bytes : ByteArray} {maxL : Nat} {ret : Option FieldType}
    (hM : mv_Met l y ws rm Pc Qc free) (hblind : FrameBlind Pc)
    (hframes : rm.frames + 1 ≤ R.frames) (hlocals : w8 + (maxL + 11) + rm.locals ≤ R.locals)
    (hws : ∀ w ∈ ws, ∀ a' U, s.WarmedH U.vm → w.before a' U = true) (hcode : Cond.code y bytes maxL ret ∈ ws) (hinit : ∀ a' U, s.WarmedH U.vm → (Cond.initialized y.cls).before a' U = true) :
    Back l R p e below s sargs y len w8 (PreOf R rm.cells rm.slots Pc) (mv_Post Qc free) := by
  refine Back.of_free (S := headSpec ws rm) (P := Pc) (K := fun _ _ _ _ _ => True) (Q := fun a st o t => ∃ (L : List Loc) (k n : Nat), Qc a st o t k n ∧ FrameEnd st o t L k n ∧ ∀ q ∈ L, free q.base) (bytes := bytes) (maxL := maxL) (ret := ret)
    (E := fun a st o t L k n => Qc a st o t k n ∧ ∀ q ∈ L, free q.base) hM hframes hlocals ?_ ?_ (fun _ _ _ _ _ _ _ _ _ => trivial) ?_ ?_
  · intro m meth c A a X hp
    exact ⟨atoms_intro fun w hw => hws w hw _ _ X.warmed, hws _ hcode _ _ X.warmed, hinit _ _ X.warmed, hp.1, hp.2.1⟩
  · intro m meth c A a g mk X hp
    exact hblind _ _ _ _ hp.2.2
  · intro a st o t ⟨L, k, n, hq, hF, hL⟩
    exact ⟨L, k, n, hF, hq, hL⟩
  · intro m meth c A a g mk v t L k n X hp hq hF ⟨hq2, hL⟩
    exact ⟨g, mk, t, L, k, n, rfl, rfl, hq2, rfl, hL, rfl, rfl⟩
end MVB
section MVW
variable {p : Program} {l : Launch} {e : Env} {R : Room} {s : State} {m : MethodId} {args : Array Value} {below : List Frame} {meth : Method} {c : Code} {H : Heap} {locs : List Loc} {cells slots : Nat} {Q : State → Prop}
theorem mv_ofW {y : MethodName} {ws ws' : List Cond} {rm : Room} {Pc : Array Value → State → Prop} {Qc : Array Value → State → Outcome → State → Nat → Nat → Prop} {free : Addr → Prop} {cc : ByteArray} {maxL : Nat} {ret : Option FieldType}
    (hy : plainName y.cls = true) (hw : ws = Cond.code y cc maxL ret :: ws')
    (body : ∀ p e s m args below meth c s₁, BodyLoose p l y (headSpec ws rm) cc maxL ret e s m args below meth c s₁ → c.maxLocals = maxL → Pc args s →
      W p l e rm s m args below meth c s.heap [] 0 0 (mv_MQ below Qc args s free) (entryFrame m args maxL)) : mv_Met l y ws rm Pc Qc free := by
  refine MetFree.of_bodyS (code := cc) (maxLocals := maxL) (ret := ret) hy ?_ ?_
  · intro args s m h hn
    obtain ⟨meth, c, h1, h2, h3, h4, h5, h6, -, -⟩ := Cond.code_spec hn (atoms_spec (ws := ws) h _ (by rw [hw]; exact List.mem_cons_self))
    exact ⟨meth, c, h1, h2, h3, h4, h5, h6⟩
  · intro p e s m args below meth c s₁ B hml hP _
    have hh0 : s₁.heap = s.heap := by rw [B.state]; rfl
    obtain ⟨t, a1, o, b1, b2, b3⟩ := body p e s m args below meth c s₁ B hml hP s₁ hh0 (Stand.of_body B)
    exact ⟨t, o, a1, b1, b2, b3⟩
theorem mv_nameQ {g : JFrame} (k : ∀ Q9 : State → Prop, Q9 = Q → W p l e R s m args below meth c H locs cells slots Q9 g) : W p l e R s m args below meth c H locs cells slots Q g := k Q rfl
theorem mv_out {Qc : Array Value → State → Outcome → State → Nat → Nat → Prop} {free : Addr → Prop} {g : JFrame} (k : W p l e R s m args below meth c H locs cells slots (MQ below (fun a s o t => Qc a s o t cells slots) args s cells slots free) g) :
    W p l e R s m args below meth c H locs cells slots (mv_MQ below Qc args s free) g := by
  intro T hT X
  obtain ⟨t, a1, o, b1, b2, b3, L, b4, b5⟩ := k T hT X
  exact ⟨t, a1, o, b1, b2, L, cells, slots, b3, b4, b5⟩
variable {cc : ByteArray} {Qc : Array Value → State → Outcome → State → Nat → Nat → Prop} {free : Addr → Prop} {pc : Nat} {ls : Array Slot}
theorem mv_iret {v : Int32} (hx : p.tables.exec = Jvm.exec) (hb : c.code = cc) (hr : meth.sig.returnType = some .int) (hlocks : meth.locks = false)
    (hq : ∀ t : State, t.heap = H → s.WarmedH t.vm → Qc args s (.returned (some (.int v))) t cells slots) (hf : ∀ q ∈ locs, free q.base)
    (hdg : decode cc pc = .ok (.ireturn, 1)) : W p l e R s m args below meth c H locs cells slots (mv_MQ below Qc args s free) (F0 m pc ls [.int v]) :=
  mv_out (W.iret hx hb hr hq hf hdg hlocks)
theorem mv_zret {v : Int32} {ty : FieldType} (hx : p.tables.exec = Jvm.exec) (hb : c.code = cc) (hr : meth.sig.returnType = some ty) (hn : narrow ty (.int v) = .int v) (hlocks : meth.locks = false)
    (hq : ∀ t : State, t.heap = H → s.WarmedH t.vm → Qc args s (.returned (some (.int v))) t cells slots) (hf : ∀ q ∈ locs, free q.base)
    (hdg : decode cc pc = .ok (.ireturn, 1)) : W p l e R s m args below meth c H locs cells slots (mv_MQ below Qc args s free) (F0 m pc ls [.int v]) :=
  mv_out (W.zret hx hb hr hn hq hf hdg hlocks)
theorem mv_lret {v : Int64} (hx : p.tables.exec = Jvm.exec) (hb : c.code = cc) (hr : meth.sig.returnType = some .long) (hlocks : meth.locks = false)
    (hq : ∀ t : State, t.heap = H → s.WarmedH t.vm → Qc args s (.returned (some (.long v))) t cells slots) (hf : ∀ q ∈ locs, free q.base)
    (hdg : decode cc pc = .ok (.lreturn, 1)) : W p l e R s m args below meth c H locs cells slots (mv_MQ below Qc args s free) (F0 m pc ls [.long v]) :=
  mv_out (W.lret hx hb hr hq hf hdg hlocks)
theorem mv_vret (hx : p.tables.exec = Jvm.exec) (hb : c.code = cc) (hr : meth.sig.returnType = none) (hlocks : meth.locks = false)
    (hq : ∀ t : State, t.heap = H → s.WarmedH t.vm → Qc args s (.returned none) t cells slots) (hf : ∀ q ∈ locs, free q.base)
    (hdg : decode cc pc = .ok (.return_, 1)) : W p l e R s m args below meth c H locs cells slots (mv_MQ below Qc args s free) (F0 m pc ls []) :=
  mv_out (W.vret hx hb hr hq hf hdg hlocks)
theorem mv_aret {v : Nat} {rt : FieldType} (hx : p.tables.exec = Jvm.exec) (hb : c.code = cc) (hr : meth.sig.returnType = some rt) (hrt : (∃ n, rt = .object n) ∨ ∃ t, rt = .array t) (hlocks : meth.locks = false)
    (hq : ∀ t : State, t.heap = H → s.WarmedH t.vm → Qc args s (.returned (some (.ref v))) t cells slots) (hf : ∀ q ∈ locs, free q.base)
    (hdg : decode cc pc = .ok (.areturn, 1)) : W p l e R s m args below meth c H locs cells slots (mv_MQ below Qc args s free) (F0 m pc ls [.ref v]) :=
  mv_out (W.aret hx hb hr hrt (Or.inr ⟨v, rfl⟩) hq hf hdg hlocks)
end MVW
section MVC
variable {p : Program} {l : Launch} {e : Env} {R : Room} {s : State} {m : MethodId} {args : Array Value} {below : List Frame} {meth : Method} {c : Code} {H : Heap} {locs : List Loc} {cells slots : Nat} {Q : State → Prop}
  {Ts ws ws' : List Cond} {cc bytes : ByteArray} {nL maxL index n : Nat} {own C : String} {y : MethodName} {ret : Option FieldType} {rm : Room} {Pc : Array Value → State → Prop} {Qc : Array Value → State → Outcome → State → Nat → Nat → Prop} {free : Addr → Prop}
  {b : Addr} {As rest : List Value} {g : JFrame} {a : Array Value}
def mv_Run (p : Program) (l : Launch) (e : Env) (R : Room) (s : State) (m : MethodId) (args : Array Value) (below : List Frame) (meth : Method) (c : Code) (H : Heap) (locs : List Loc) (cells slots : Nat) (g : JFrame) (rest : List Value) (Qa : State → Outcome → State → Nat → Nat → Prop) (free : Addr → Prop) : Prop :=
  ∀ T : State, T.heap = H → Stand p l e R s m args below meth c T locs cells slots → ∃ (v : Option Value) (st₀ t T' : State) (L : List Loc) (k n : Nat), st₀.heap = H ∧ Stand p l e R s m args below meth c T' (locs ++ L) (cells + k) (slots + n) ∧ (∀ q ∈ L, free q.base) ∧ T'.heap = t.heap ∧ T'.vm = t.vm ∧ Qa st₀ (.returned v) t k n ∧
    Goes p e below T g T' { g with pc := g.pc + 3, stack := v.toList ++ rest }
theorem mv_callBack {mc ms : Nat} (cb : CallB R s args own index y bytes maxL ret ws rm mc ms n) (hM : mv_Met l y ws rm Pc Qc free) (hbl : FrameBlind Pc) : Back l R p e below s args y 3 8 (PreOf R rm.cells rm.slots Pc) (mv_Post Qc free) := by
  obtain ⟨hrc, hrs, hfr, hlo, hws, hcw, -, hini, -⟩ := cb
  exact mv_back (bytes := bytes) (maxL := maxL) (ret := ret) hM hbl hfr hlo hws hcw (fun a' U hW => word_at hW (Or.inl (by first | rfl | simp [Cond.onTables, Cond.keeps, Cond.steady])) hini)
theorem mv_runV (S : CallFix p m c cc nL s args Ts own) (hM : mv_Met l y ws rm Pc Qc free) (cw : CallW R s args own C index y bytes maxL ret ws rm rm.cells rm.slots n) (hp : PreV s H C b Pc As)
    (hg : g.method = m) (hn : As.length = n) (hsize : g.locals.size = nL) (hstack : g.stack = As.reverse ++ .ref b :: rest) (hW : 2 * g.monitorRoom + (rest.map fun v => v.category).sum ≤ 8) (hdg : decode cc g.pc = .ok (.invokevirtual index, 3)) (hf : cells + rm.cells ≤ R.cells ∧ slots + rm.slots ≤ R.slots) :
    mv_Run p l e R s m args below meth c H locs cells slots g rest (Qc (Value.ref b :: As).toArray) free := by
  have hK : Back l R p e below s args y 3 8 (PreOf R rm.cells rm.slots Pc) (mv_Post Qc free) := mv_callBack cw.1 hM hp.1
  obtain ⟨⟨-, -, -, -, -, -, hcode, -, hy, hlen, hl⟩, hin, hse⟩ := cw
  obtain ⟨hx, hb, hml, ho, -⟩ := S
  obtain ⟨-, ⟨cellB, hcB, hoB, hclB⟩, hPc⟩ := hp
  intro T hT X
  obtain ⟨v, vm₁, ⟨U', l2, c2, s2⟩, hW₁, X', ⟨g', mk, t, L, k9, n9, e1, e2, hq, h1, hL, h2, h3⟩, st⟩ := callV X hx (C := C) (bytes := bytes) (maxL := maxL) (ret := ret) ho hl hin hse hcode hy hK (by rw [hT]; exact hcB) hoB hclB hg (hsize.trans hml.symm) (argsL := As) (rest := rest) (fun sig h => hn.trans (hlen sig h)) hstack hW (by rw [hb]; exact hdg)
    (fun vm₁ hW₁ => ⟨hf.1, hf.2, hPc (T.setVm vm₁) hT hW₁⟩)
  dsimp only [Pt.U, Pt.locs, Pt.cells, Pt.slots] at X' e1 e2 h1 h2 h3 st
  subst h1; subst h2; subst h3
  exact ⟨v, (T.setVm vm₁).calling g' mk (Value.ref b :: As).toArray, t, U', L, k9, n9, hT, X', hL, e1, e2, hq, st⟩
theorem mv_runS (S : CallFix p m c cc nL s args Ts own) (hM : mv_Met l y ws rm Pc Qc free) (cw : CallB R s args own index y bytes maxL ret ws rm rm.cells rm.slots n ∧ (Cond.static y).before args s = true) (hp : PreS s H Pc As)
    (hg : g.method = m) (hn : As.length = n) (hsize : g.locals.size = nL) (hstack : g.stack = As.reverse ++ rest) (hW : 2 * g.monitorRoom + (rest.map fun v => v.category).sum ≤ 8) (hdg : decode cc g.pc = .ok (.invokestatic index, 3)) (hf : cells + rm.cells ≤ R.cells ∧ slots + rm.slots ≤ R.slots) :
    mv_Run p l e R s m args below meth c H locs cells slots g rest (Qc As.toArray) free := by
  have hK : Back l R p e below s args y 3 8 (PreOf R rm.cells rm.slots Pc) (mv_Post Qc free) := mv_callBack cw.1 hM hp.1
  obtain ⟨⟨-, -, -, -, -, -, hcode, hini, hy, hlen, hl⟩, hstt⟩ := cw
  obtain ⟨hx, hb, hml, ho, -⟩ := S
  intro T hT X
  obtain ⟨v, vm₁, ⟨U', l2, c2, s2⟩, hW₁, X', ⟨g', mk, t, L, k9, n9, e1, e2, hq, h1, hL, h2, h3⟩, st⟩ := callS X hx (bytes := bytes) (maxL := maxL) (ret := ret) ho hl hstt hini hcode hy hK hg (hsize.trans hml.symm) (argsL := As) (rest := rest) (fun sig h => hn.trans (hlen sig h)) hstack hW (by rw [hb]; exact hdg)
    (fun vm₁ hW₁ => ⟨hf.1, hf.2, hp.2 (T.setVm vm₁) hT hW₁⟩)
  dsimp only [Pt.U, Pt.locs, Pt.cells, Pt.slots] at X' e1 e2 h1 h2 h3 st
  subst h1; subst h2; subst h3
  exact ⟨v, (T.setVm vm₁).calling g' mk As.toArray, t, U', L, k9, n9, hT, X', hL, e1, e2, hq, st⟩
theorem mv_runI (S : CallFix p m c cc nL s args Ts own) (hM : mv_Met l y ws rm Pc Qc free) (cw : CallB R s args own index y bytes maxL none ws rm rm.cells rm.slots n ∧ y.name = "<init>" ∧ (Cond.instanceMethod y).before args s = true) (hp : PreS s H Pc (.ref b :: As))
    (hg : g.method = m) (hn : As.length = n) (hsize : g.locals.size = nL) (hstack : g.stack = As.reverse ++ .ref b :: rest) (hW : 2 * g.monitorRoom + (rest.map fun v => v.category).sum ≤ 8) (hdg : decode cc g.pc = .ok (.invokespecial index, 3)) (hf : cells + rm.cells ≤ R.cells ∧ slots + rm.slots ≤ R.slots) :
    mv_Run p l e R s m args below meth c H locs cells slots g rest (Qc (Value.ref b :: As).toArray) free := by
  have hK : Back l R p e below s args y 3 8 (PreOf R rm.cells rm.slots Pc) (mv_Post Qc free) := mv_callBack cw.1 hM hp.1
  obtain ⟨⟨-, -, -, -, -, -, hcode, -, hy, hlen, hl⟩, hy1, hin⟩ := cw
  obtain ⟨hx, hb, hml, ho, -⟩ := S
  intro T hT X
  obtain ⟨v, vm₁, ⟨U', l2, c2, s2⟩, hW₁, X', ⟨g', mk, t, L, k9, n9, e1, e2, hq, h1, hL, h2, h3⟩, st⟩ := callI X hx (bytes := bytes) (maxL := maxL) ho hy1 hl hin hcode hy hK hg (hsize.trans hml.symm) (a := b) (argsL := As) (rest := rest) (fun sig h => hn.trans (hlen sig h)) hstack hW (by rw [hb]; exact hdg)
    (fun vm₁ hW₁ => ⟨hf.1, hf.2, hp.2 (T.setVm vm₁) hT hW₁⟩)
  dsimp only [Pt.U, Pt.locs, Pt.cells, Pt.slots] at X' e1 e2 h1 h2 h3 st
  subst h1; subst h2; subst h3
  exact ⟨v, (T.setVm vm₁).calling g' mk (Value.ref b :: As).toArray, t, U', L, k9, n9, hT, X', hL, e1, e2, hq, st⟩
variable {A0 A1 : Nat → Prop} {H0 : Heap} {pc : Nat} {ls : Array Slot} {st0 : List Value}
theorem mv_call {S : Type} {post : Option Value → S → Nat → Nat → Prop} {B : S → State → Prop} (hr : mv_Run p l e R s m args below meth c H locs cells slots (F0 m pc ls st0) rest (mv_Q post B A1 a) free) (hS : va_S A0 H0 H locs) (hA : ∀ q, q < H.size → A1 q → A0 q) (hf : ∀ q, free q → A0 q)
    (kk : ∀ (v : Option Value) (u : S) (k n : Nat) (t : State) (H1 : Heap) (locs1 : List Loc), t.heap = H1 → s.vm.Alike t.vm → post v u k n → B u t → H.size ≤ H1.size → (∀ q : Nat, q < H.size → ¬ A1 q → H1[q]? = H[q]?) → va_S A0 H0 H1 locs1 → W p l e R s m args below meth c H1 locs1 (cells + k) (slots + n) Q (F0 m (pc + 3) ls (v.toList ++ rest))) : W p l e R s m args below meth c H locs cells slots Q (F0 m pc ls st0) := by
  intro T hT X
  obtain ⟨v, st₀, t, T', L, k, n, h0, X', hL, e1, e2, ⟨⟨v', u, hv, hp, hb⟩, hz, hk⟩, st⟩ := hr T hT X
  cases hv
  rw [h0] at hz hk
  obtain ⟨t2, a1, b1⟩ := kk v u k n t T'.heap (locs ++ L) e1.symm (by rw [← e2]; exact X'.warmed.alike) hp hb (by rw [e1]; exact hz) (fun q h1 h2 => by rw [e1]; exact hk q h1 h2)
    ⟨Nat.le_trans hS.1 (by rw [e1]; exact hz), fun q h1 h2 => by rw [e1, hk q (Nat.lt_of_lt_of_le h1 hS.1) (fun z => h2 (hA q (Nat.lt_of_lt_of_le h1 hS.1) z))]; exact hS.2.1 q h1 h2, fun q hq => by
      rcases List.mem_append.mp hq with h | h
      · exact hS.2.2 q h
      · exact hf _ (hL q h)⟩ T' rfl X'
  exact ⟨t2, st t2 a1, b1⟩
end MVC
end
section
/-! the bytes of a row: an array of w places that holds t, of which the first z are L -/
def okB (w : Nat) (t : Nat → Int) (z : Int) (L : List Int) : Prop := 64 ≤ w ∧ w ≤ 4096 ∧ z = (L.length : Int) ∧ z ≤ w ∧ (∀ j, 0 ≤ t j ∧ t j < 256) ∧ ∀ j, j < L.length → t j = L.getD j 0
def gd (L : List Int) (i : Int) : Int := if 0 ≤ i then L.getD i.toNat 0 else 0
/-- what a row of w places may still make, over its whole life -/
def phB (w : Nat) : Nat := (if w < 4096 then 4096 else 0) + 2 * (4096 - w)
theorem sI {a b : Int} (h : a = b) : some (Value.int (iI a)) = some (.int (iI b)) := by rw [h]
theorem sL {a b : Int} (h : a = b) : some (Value.long (lI a)) = some (.long (lI b)) := by rw [h]
theorem gd_out {L : List Int} {i : Int} (h : i < 0 ∨ (L.length : Int) ≤ i) : 0 = gd L i := by
  unfold gd
  split
  · rw [List.getD_eq_getElem?_getD, List.getElem?_eq_none (by omega)]; rfl
  · rfl
theorem gd_in {w : Nat} {t : Nat → Int} {z : Int} {L : List Int} {i : Int} (hok : okB w t z L) (h : 0 ≤ i ∧ i < z) : t i.toNat % 256 = gd L i := by
  obtain ⟨-, -, hz, -, h8, hco⟩ := hok
  unfold gd
  rw [if_pos h.1, ← hco _ (by omega)]
  have := h8 i.toNat
  omega
theorem gd_rng {w : Nat} {t : Nat → Int} {z : Int} {L : List Int} (hok : okB w t z L) (i : Int) : 0 ≤ gd L i ∧ gd L i < 256 := by
  have hz := hok.2.2.1
  rcases (show (i < 0 ∨ (L.length : Int) ≤ i) ∨ (0 ≤ i ∧ i < z) by omega) with h | h
  · rw [← gd_out h]; decide
  · rw [← gd_in hok h]; omega
theorem phB_grow {w v : Nat} (h1 : w < v) (h2 : v ≤ 4096) (h3 : 2 * w ≤ v ∨ v = 4096) : v + phB v ≤ phB w := by
  unfold phB
  split <;> split <;> omega
theorem phB_le (w : Nat) : phB w ≤ 12288 := by
  unfold phB
  split <;> omega
theorem okB_app {w w1 : Nat} {t t1 : Nat → Int} {z x : Int} {L : List Int} (h : okB w t z L) (h1 : 64 ≤ w1 ∧ w1 ≤ 4096 ∧ z + 1 ≤ w1) (h8 : ∀ j, 0 ≤ t1 j ∧ t1 j < 256) (hk : ∀ j : Nat, (j : Int) < z → t1 j = t j) (hx : 0 ≤ x ∧ x < 256) {p : Nat} (hp : (p : Int) = z) {y : Int} (hy : y = z + 1) : okB w1 (vf_upd t1 p x) y (L ++ [x]) := by
  obtain ⟨-, -, hz, -, -, hco⟩ := h
  refine ⟨h1.1, h1.2.1, by simp; omega, by omega, ?_, ?_⟩
  · intro j
    unfold vf_upd
    split
    · exact hx
    · exact h8 j
  · intro j hj
    simp only [List.length_append, List.length_cons, List.length_nil] at hj
    unfold vf_upd
    by_cases e : j = p
    · rw [if_pos e, e, List.getD_eq_getElem?_getD, List.getElem?_append_right (by omega)]
      rw [show p - L.length = 0 by omega]; rfl
    · rw [if_neg e, hk j (by omega), hco j (by omega), List.getD_eq_getElem?_getD, List.getD_eq_getElem?_getD, List.getElem?_append_left (by omega)]
theorem okB_cat {w w1 w2 : Nat} {t t1 t2 : Nat → Int} {z z2 : Int} {L L2 : List Int} (h : okB w t z L) (h2 : okB w2 t2 z2 L2) (h1 : 64 ≤ w1 ∧ w1 ≤ 4096 ∧ z + z2 ≤ w1) (h8 : ∀ j, 0 ≤ t1 j ∧ t1 j < 256) (hk : ∀ j : Nat, (j : Int) < z → t1 j = t j) {p q : Nat} (hp : (p : Int) = z) (hq : (q : Int) = z2) {y : Int} (hy : y = z + z2) : okB w1 (va_cpy t2 t1 0 p q) y (L ++ L2) := by
  obtain ⟨-, -, hz, -, -, hco⟩ := h
  obtain ⟨-, -, hz2, -, h82, hco2⟩ := h2
  refine ⟨h1.1, h1.2.1, by simp; omega, by omega, ?_, ?_⟩
  · intro j
    unfold va_cpy
    split
    · exact h82 _
    · exact h8 j
  · intro j hj
    simp only [List.length_append] at hj
    unfold va_cpy
    by_cases e : p ≤ j ∧ j < p + q
    · rw [if_pos e, hco2 _ (by omega), List.getD_eq_getElem?_getD, List.getD_eq_getElem?_getD, List.getElem?_append_right (by omega)]
      rw [show 0 + (j - p) = j - L.length by omega]
    · rw [if_neg e, hk j (by omega), hco j (by omega), List.getD_eq_getElem?_getD, List.getD_eq_getElem?_getD, List.getElem?_append_left (by omega)]
theorem okB_front {w w1 w2 : Nat} {t t1 t2 : Nat → Int} {z z2 : Int} {L L2 : List Int} (h : okB w t z L) (h2 : okB w2 t2 z2 L2) (h1 : 64 ≤ w1 ∧ w1 ≤ 4096 ∧ z + z2 ≤ w1) (h8 : ∀ j, 0 ≤ t1 j ∧ t1 j < 256) (hk : ∀ j : Nat, (j : Int) < z → t1 j = t j) {p q : Nat} (hp : (p : Int) = z) (hq : (q : Int) = z2) {y : Int} (hy : y = z + z2) : okB w1 (va_cpy t2 (va_cpy t1 t1 0 q p) 0 0 q) y (L2 ++ L) := by
  obtain ⟨-, -, hz, -, -, hco⟩ := h
  obtain ⟨-, -, hz2, -, h82, hco2⟩ := h2
  refine ⟨h1.1, h1.2.1, by simp; omega, by omega, ?_, ?_⟩
  · intro j
    unfold va_cpy
    split
    · exact h82 _
    · split
      · exact h8 _
      · exact h8 j
  · intro j hj
    simp only [List.length_append] at hj
    unfold va_cpy
    by_cases e : j < q
    · rw [if_pos (by omega), hco2 _ (by omega), List.getD_eq_getElem?_getD, List.getD_eq_getElem?_getD, List.getElem?_append_left (by omega)]
      rw [show 0 + (j - 0) = j by omega]
    · rw [if_neg (by omega), if_pos (by omega), hk _ (by omega), hco _ (by omega), List.getD_eq_getElem?_getD, List.getD_eq_getElem?_getD, List.getElem?_append_right (by omega)]
      rw [show 0 + (j - q) = j - L2.length by omega]
theorem okB_cut {w : Nat} {t : Nat → Int} {z y : Int} {L : List Int} (h : okB w t z L) (hy : 0 ≤ y ∧ y ≤ z) : okB w t y (L.take y.toNat) := by
  obtain ⟨a1, a2, hz, a4, h8, hco⟩ := h
  refine ⟨a1, a2, ?_, by omega, h8, ?_⟩
  · rw [List.length_take]; omega
  · intro j hj
    rw [List.length_take] at hj
    rw [hco j (by omega), List.getD_eq_getElem?_getD, List.getD_eq_getElem?_getD, List.getElem?_take, if_pos (by omega)]
/-- the m lowest bytes of x, the highest first -/
def nb (x : Int) : Nat → List Int
  | 0 => []
  | m + 1 => (x / 256 ^ m % 256) :: nb x m
theorem nb_len (x : Int) : ∀ m, (nb x m).length = m
  | 0 => rfl
  | m + 1 => by simp [nb, nb_len x m]
theorem p8 {i : Int} (h : 0 ≤ i) : (2 : Int) ^ (8 * i).toNat = 256 ^ i.toNat := by
  obtain ⟨n, rfl⟩ := Int.eq_ofNat_of_zero_le h
  rw [show (8 * (n : Int)).toNat = 8 * n by omega, Int.pow_mul, Int.toNat_natCast]
  rfl
theorem nb_step (x : Int) {i : Int} (h : 0 ≤ i) : nb x (i + 1).toNat = (x / 256 ^ i.toNat % 256) :: nb x i.toNat := by
  rw [show (i + 1).toNat = i.toNat + 1 by omega]
  rfl
theorem cpy_in {f g : Nat → Int} {n j : Nat} (h : j < n) : va_cpy f g (0 : Int).toNat (0 : Int).toNat n j = f j := by
  unfold va_cpy
  rw [if_pos (by simp; omega)]
  simp
theorem cpy_or {f : Nat → Int} {a b n j : Nat} (ha : a = b) : va_cpy f (fun _ => (0 : Int)) a b n j = f j ∨ va_cpy f (fun _ => (0 : Int)) a b n j = 0 := by
  unfold va_cpy
  split
  · left; congr 1; omega
  · right; rfl
end
section
set_option maxHeartbeats 4000000 in
set_option maxRecDepth 100000 in
theorem c_B_size (l : Launch) (dC : Nat → ClassId) (dI : Nat → Nat → Nat) (sz : Nat) (b : Nat) (r : Nat) (z : Int) : mv_Met l yX0_size wsX0_size ({ frames := 0, cells := 0, slots := 0, locals := 0 }) (va_Pc [.ref b] (fun U => U.heap.size = sz ∧ va_P (dC, dI) vwCl [(b, .inr (0, [.ref r, .int (iI z)]))] U.heap ∧ va_K (dC, dI) vwCl [] U ∧ va_D (fun _ => True) [(b, .inr (0, [.ref r, .int (iI z)]))])) (mv_Q (fun (v : Option Value) (_ : Unit) (k n : Nat) => v = some (.int (iI z)) ∧ k = 0 ∧ n = 0) (fun (_ : Unit) (tS : State) => va_P (dC, dI) vwCl [(b, .inr (0, [.ref r, .int (iI z)]))] tS.heap ∧ va_K (dC, dI) vwCl [] tS ∧ va_D (va_A [(b, .inr (0, [.ref r, .int (iI z)]))] sz) [(b, .inr (0, [.ref r, .int (iI z)]))]) (va_A [(b, .inr (0, [.ref r, .int (iI z)]))] sz)) (va_A [(b, .inr (0, [.ref r, .int (iI z)]))] sz) := by
  refine mv_ofW (cc := cX0_size) (maxL := 1) (ret := (some .int)) (by decide) rfl ?_
  intro p e s m args below meth c s₁ B hml hv
  obtain ⟨rfl, hsz, hP, hK, hD0⟩ := hv
  have hx := B.exec
  have hb := B.bytes
  have hr := B.returns
  have hT : ∀ w ∈ wT, w.before _ s = true := fun w h => atoms_spec (ws := wsX0_size) B.pre w (List.mem_cons_of_mem _ h)
  have hown : s.vm.findClass RX0 = some m.cls := findClass_of_methodNamed B.named
  have hlocks := B.notSynchronized
  subst hsz
  have hD := hD0.self (sz := s.heap.size)
  generalize hAe : va_A [(b, .inr (0, [.ref r, .int (iI z)]))] s.heap.size = A at hD ⊢
  have hA : ∀ q : Nat, s.heap.size ≤ q → A q := fun q h => by rw [← hAe]; exact Or.inr h
  have hS : va_S A s.heap s.heap [] := va_S.rf
  have hP : va_P (dC, dI) vwCl [(b, .inr (0, [.ref r, .int (iI z)]))] s.heap := hP
  have hl := lv_entry ([.ref b]) (n := 1) (Nat.le_of_ble_eq_true rfl)
  rw [lg_entry_eq]
  generalize (lg_sl ([.ref b]) ++ List.replicate (1 - (lg_sl ([.ref b])).length) Slot.unset).toArray = ls at hl ⊢
  have hl : lv_has ls 1 [(0, .ref b)] := hl
  refine lv_aload_n hx hb dX0_size_0 rfl (lv_at hl 0 rfl) ?_
  refine va_get (D := (dC, dI)) (ci := 0) (v := .int (iI z)) (C := RX0) (T := TX0) (N := 2) hx hb hT inX0 hown hK hP 0 rfl rfl 1 (by decide) (hT _ wd57) (fun _ h9 => h9) rfl dX0_size_1 ?_
  have hP9 := hP.sub (ws' := [(b, .inr (0, [.ref r, .int (iI z)]))]) [0] rfl
  have hD9 := hD.sub (ws' := [(b, .inr (0, [.ref r, .int (iI z)]))]) [0] (by decide) rfl
  have hK9 := hK.sub (tys' := []) [] rfl
  exact mv_iret hx hb hr hlocks (fun tS ht hW => ⟨⟨_, (), rfl, ⟨rfl, rfl, rfl⟩, by rw [ht]; exact hP9, va_K.moved hW.alike hK9, hD9⟩, hS.F ht⟩) hS.2.2 dX0_size_4
set_option maxHeartbeats 4000000 in
set_option maxRecDepth 100000 in
theorem c_B_room (l : Launch) (dC : Nat → ClassId) (dI : Nat → Nat → Nat) (sz : Nat) (b : Nat) (r : Nat) (z : Int) (i : Int) (hz : 0 ≤ z ∧ z ≤ 4096) (hi : -2147483648 ≤ i ∧ i < 2147483648) : mv_Met l yX0_hasRoomFor wsX0_hasRoomFor ({ frames := 0, cells := 0, slots := 0, locals := 0 }) (va_Pc [.ref b, .int (iI i)] (fun U => U.heap.size = sz ∧ va_P (dC, dI) vwCl [(b, .inr (0, [.ref r, .int (iI z)]))] U.heap ∧ va_K (dC, dI) vwCl [] U ∧ va_D (fun _ => True) [(b, .inr (0, [.ref r, .int (iI z)]))])) (mv_Q (fun (v : Option Value) (u : Int) (k n : Nat) => match u with | (q) => v = some (.int (iI q)) ∧ (q = 1 ∧ 0 ≤ i ∧ i ≤ 4096 - z ∨ q = 0 ∧ (i < 0 ∨ 4096 - z < i)) ∧ k = 0 ∧ n = 0) (fun (u : Int) (tS : State) => match u with | (q) => va_P (dC, dI) vwCl [(b, .inr (0, [.ref r, .int (iI z)]))] tS.heap ∧ va_K (dC, dI) vwCl [] tS ∧ va_D (va_A [(b, .inr (0, [.ref r, .int (iI z)]))] sz) [(b, .inr (0, [.ref r, .int (iI z)]))]) (va_A [(b, .inr (0, [.ref r, .int (iI z)]))] sz)) (va_A [(b, .inr (0, [.ref r, .int (iI z)]))] sz) := by
  refine mv_ofW (cc := cX0_hasRoomFor) (maxL := 2) (ret := (some .boolean)) (by decide) rfl ?_
  intro p e s m args below meth c s₁ B hml hv
  obtain ⟨rfl, hsz, hP, hK, hD0⟩ := hv
  have hx := B.exec
  have hb := B.bytes
  have hr := B.returns
  have hT : ∀ w ∈ wT, w.before _ s = true := fun w h => atoms_spec (ws := wsX0_hasRoomFor) B.pre w (List.mem_cons_of_mem _ h)
  have hown : s.vm.findClass RX0 = some m.cls := findClass_of_methodNamed B.named
  have hlocks := B.notSynchronized
  subst hsz
  have hD := hD0.self (sz := s.heap.size)
  generalize hAe : va_A [(b, .inr (0, [.ref r, .int (iI z)]))] s.heap.size = A at hD ⊢
  have hA : ∀ q : Nat, s.heap.size ≤ q → A q := fun q h => by rw [← hAe]; exact Or.inr h
  have hS : va_S A s.heap s.heap [] := va_S.rf
  have hP : va_P (dC, dI) vwCl [(b, .inr (0, [.ref r, .int (iI z)]))] s.heap := hP
  have hl := lv_entry ([.ref b, .int (iI i)]) (n := 2) (Nat.le_of_ble_eq_true rfl)
  rw [lg_entry_eq]
  generalize (lg_sl ([.ref b, .int (iI i)]) ++ List.replicate (2 - (lg_sl ([.ref b, .int (iI i)])).length) Slot.unset).toArray = ls at hl ⊢
  have hl : lv_has ls 2 [(0, .ref b), (1, .int (iI i))] := hl
  refine lv_iload_n hx hb dX0_hasRoomFor_0 rfl (lv_at hl 1 rfl) ?_
  refine li_if_lt (tgt := 20) hx hb (by omega) dX0_hasRoomFor_1 (by decide) (fun c1 => ?_) (fun c1 => ?_)
  · skip
    refine lv_iconst (v := iI 0) hx hb dX0_hasRoomFor_20 rfl ?_
    have hP9 := hP.sub (ws' := [(b, .inr (0, [.ref r, .int (iI z)]))]) [0] rfl
    have hD9 := hD.sub (ws' := [(b, .inr (0, [.ref r, .int (iI z)]))]) [0] (by decide) rfl
    have hK9 := hK.sub (tys' := []) [] rfl
    exact mv_zret hx hb hr (zb_n (by omega)) hlocks (fun tS ht hW => ⟨⟨_, (0), rfl, ⟨rfl, by omega, rfl, rfl⟩, by rw [ht]; exact hP9, va_K.moved hW.alike hK9, hD9⟩, hS.F ht⟩) hS.2.2 dX0_hasRoomFor_21
  · skip
    refine lv_iload_n hx hb dX0_hasRoomFor_4 rfl (lv_at hl 1 rfl) ?_
    refine lv_sipush (v := iI 4096) hx hb dX0_hasRoomFor_5 (by decide +kernel) ?_
    refine lv_aload_n hx hb dX0_hasRoomFor_8 rfl (lv_at hl 0 rfl) ?_
    refine va_get (D := (dC, dI)) (ci := 0) (v := .int (iI z)) (C := RX0) (T := TX0) (N := 2) hx hb hT inX0 hown hK hP 0 rfl rfl 1 (by decide) (hT _ wd57) (fun _ h9 => h9) rfl dX0_hasRoomFor_9 ?_
    refine li_isub hx hb dX0_hasRoomFor_12 ?_
    refine li_icmp_gt (tgt := 20) hx hb (by omega) (by omega) dX0_hasRoomFor_13 (by decide) (fun c2 => ?_) (fun c2 => ?_)
    · skip
      refine lv_iconst (v := iI 0) hx hb dX0_hasRoomFor_20 rfl ?_
      have hP9 := hP.sub (ws' := [(b, .inr (0, [.ref r, .int (iI z)]))]) [0] rfl
      have hD9 := hD.sub (ws' := [(b, .inr (0, [.ref r, .int (iI z)]))]) [0] (by decide) rfl
      have hK9 := hK.sub (tys' := []) [] rfl
      exact mv_zret hx hb hr (zb_n (by omega)) hlocks (fun tS ht hW => ⟨⟨_, (0), rfl, ⟨rfl, by omega, rfl, rfl⟩, by rw [ht]; exact hP9, va_K.moved hW.alike hK9, hD9⟩, hS.F ht⟩) hS.2.2 dX0_hasRoomFor_21
    · skip
      refine lv_iconst (v := iI 1) hx hb dX0_hasRoomFor_16 rfl ?_
      refine lv_goto (tgt := 21) hx hb dX0_hasRoomFor_17 (by decide) ?_
      have hP9 := hP.sub (ws' := [(b, .inr (0, [.ref r, .int (iI z)]))]) [0] rfl
      have hD9 := hD.sub (ws' := [(b, .inr (0, [.ref r, .int (iI z)]))]) [0] (by decide) rfl
      have hK9 := hK.sub (tys' := []) [] rfl
      exact mv_zret hx hb hr (zb_n (by omega)) hlocks (fun tS ht hW => ⟨⟨_, (1), rfl, ⟨rfl, by omega, rfl, rfl⟩, by rw [ht]; exact hP9, va_K.moved hW.alike hK9, hD9⟩, hS.F ht⟩) hS.2.2 dX0_hasRoomFor_21
set_option maxHeartbeats 4000000 in
set_option maxRecDepth 100000 in
theorem c_B_at (l : Launch) (dC : Nat → ClassId) (dI : Nat → Nat → Nat) (sz : Nat) (b : Nat) (r : Nat) (cA : ClassId) (w : Nat) (t : Nat → Int) (z : Int) (L : List Int) (i : Int) (hok : okB w t z L) (hi : -2147483648 ≤ i ∧ i < 2147483648) : mv_Met l yX0_at wsX0_at ({ frames := 0, cells := 0, slots := 0, locals := 0 }) (va_Pc [.ref b, .int (iI i)] (fun U => U.heap.size = sz ∧ va_P (dC, dI) vwCl [(b, .inr (0, [.ref r, .int (iI z)])), (r, .inl (cA, w, .inl (fun j => bI (t j))))] U.heap ∧ va_K (dC, dI) vwCl [(cA, .byte)] U ∧ va_D (fun _ => True) [(b, .inr (0, [.ref r, .int (iI z)])), (r, .inl (cA, w, .inl (fun j => bI (t j))))])) (mv_Q (fun (v : Option Value) (_ : Unit) (k n : Nat) => v = some (.int (iI (gd L i))) ∧ k = 0 ∧ n = 0) (fun (_ : Unit) (tS : State) => va_P (dC, dI) vwCl [(b, .inr (0, [.ref r, .int (iI z)])), (r, .inl (cA, w, .inl (fun j => bI (t j))))] tS.heap ∧ va_K (dC, dI) vwCl [(cA, .byte)] tS ∧ va_D (va_A [(b, .inr (0, [.ref r, .int (iI z)])), (r, .inl (cA, w, .inl (fun j => bI (t j))))] sz) [(b, .inr (0, [.ref r, .int (iI z)])), (r, .inl (cA, w, .inl (fun j => bI (t j))))]) (va_A [(b, .inr (0, [.ref r, .int (iI z)])), (r, .inl (cA, w, .inl (fun j => bI (t j))))] sz)) (va_A [(b, .inr (0, [.ref r, .int (iI z)])), (r, .inl (cA, w, .inl (fun j => bI (t j))))] sz) := by
  refine mv_ofW (cc := cX0_at) (maxL := 2) (ret := (some .int)) (by decide) rfl ?_
  intro p e s m args below meth c s₁ B hml hv
  obtain ⟨rfl, hsz, hP, hK, hD0⟩ := hv
  have hx := B.exec
  have hb := B.bytes
  have hr := B.returns
  have hT : ∀ w ∈ wT, w.before _ s = true := fun w h => atoms_spec (ws := wsX0_at) B.pre w (List.mem_cons_of_mem _ h)
  have hown : s.vm.findClass RX0 = some m.cls := findClass_of_methodNamed B.named
  have hlocks := B.notSynchronized
  subst hsz
  have hD := hD0.self (sz := s.heap.size)
  generalize hAe : va_A [(b, .inr (0, [.ref r, .int (iI z)])), (r, .inl (cA, w, .inl (fun j => bI (t j))))] s.heap.size = A at hD ⊢
  have hA : ∀ q : Nat, s.heap.size ≤ q → A q := fun q h => by rw [← hAe]; exact Or.inr h
  have hS : va_S A s.heap s.heap [] := va_S.rf
  have hP : va_P (dC, dI) vwCl [(b, .inr (0, [.ref r, .int (iI z)])), (r, .inl (cA, w, .inl (fun j => bI (t j))))] s.heap := hP
  have hl := lv_entry ([.ref b, .int (iI i)]) (n := 2) (Nat.le_of_ble_eq_true rfl)
  rw [lg_entry_eq]
  generalize (lg_sl ([.ref b, .int (iI i)]) ++ List.replicate (2 - (lg_sl ([.ref b, .int (iI i)])).length) Slot.unset).toArray = ls at hl ⊢
  have hl : lv_has ls 2 [(0, .ref b), (1, .int (iI i))] := hl
  obtain ⟨hw1, hw2, hw3, hw4, hw5, hw6⟩ := id hok
  refine lv_iload_n hx hb dX0_at_0 rfl (lv_at hl 1 rfl) ?_
  refine li_if_lt (tgt := 34) hx hb (by omega) dX0_at_1 (by decide) (fun c1 => ?_) (fun c1 => ?_)
  · skip
    refine lv_iconst (v := iI 0) hx hb dX0_at_34 rfl ?_
    have hP9 := hP.sub (ws' := [(b, .inr (0, [.ref r, .int (iI z)])), (r, .inl (cA, w, .inl (fun j => bI (t j))))]) [0, 1] rfl
    have hD9 := hD.sub (ws' := [(b, .inr (0, [.ref r, .int (iI z)])), (r, .inl (cA, w, .inl (fun j => bI (t j))))]) [0, 1] (by decide) rfl
    have hK9 := hK.sub (tys' := [(cA, .byte)]) [0] rfl
    exact mv_iret hx hb hr hlocks (fun tS ht hW => ⟨⟨_, (), rfl, ⟨sI (gd_out (by omega)), rfl, rfl⟩, by rw [ht]; exact hP9, va_K.moved hW.alike hK9, hD9⟩, hS.F ht⟩) hS.2.2 dX0_at_35
  · skip
    refine lv_iload_n hx hb dX0_at_4 rfl (lv_at hl 1 rfl) ?_
    refine lv_aload_n hx hb dX0_at_5 rfl (lv_at hl 0 rfl) ?_
    refine va_get (D := (dC, dI)) (ci := 0) (v := .int (iI z)) (C := RX0) (T := TX0) (N := 2) hx hb hT inX0 hown hK hP 0 rfl rfl 1 (by decide) (hT _ wd57) (fun _ h9 => h9) rfl dX0_at_6 ?_
    refine li_icmp_ge (tgt := 34) hx hb (by omega) (by omega) dX0_at_9 (by decide) (fun c2 => ?_) (fun c2 => ?_)
    · skip
      refine lv_iconst (v := iI 0) hx hb dX0_at_34 rfl ?_
      have hP9 := hP.sub (ws' := [(b, .inr (0, [.ref r, .int (iI z)])), (r, .inl (cA, w, .inl (fun j => bI (t j))))]) [0, 1] rfl
      have hD9 := hD.sub (ws' := [(b, .inr (0, [.ref r, .int (iI z)])), (r, .inl (cA, w, .inl (fun j => bI (t j))))]) [0, 1] (by decide) rfl
      have hK9 := hK.sub (tys' := [(cA, .byte)]) [0] rfl
      exact mv_iret hx hb hr hlocks (fun tS ht hW => ⟨⟨_, (), rfl, ⟨sI (gd_out (by omega)), rfl, rfl⟩, by rw [ht]; exact hP9, va_K.moved hW.alike hK9, hD9⟩, hS.F ht⟩) hS.2.2 dX0_at_35
    · skip
      refine lv_iload_n hx hb dX0_at_12 rfl (lv_at hl 1 rfl) ?_
      refine lv_aload_n hx hb dX0_at_13 rfl (lv_at hl 0 rfl) ?_
      refine va_get (D := (dC, dI)) (ci := 0) (v := .ref r) (C := RX0) (T := TX0) (N := 2) hx hb hT inX0 hown hK hP 0 rfl rfl 0 (by decide) (hT _ wd56) (fun _ h9 => h9) rfl dX0_at_14 ?_
      refine li_alen hx hb hK hP 1 0 rfl rfl dX0_at_17 ?_
      refine li_icmp_ge (tgt := 34) hx hb (by omega) (by omega) dX0_at_18 (by decide) (fun c3 => absurd c3 (by omega)) (fun c3 => ?_)
      refine lv_aload_n hx hb dX0_at_21 rfl (lv_at hl 0 rfl) ?_
      refine va_get (D := (dC, dI)) (ci := 0) (v := .ref r) (C := RX0) (T := TX0) (N := 2) hx hb hT inX0 hown hK hP 0 rfl rfl 0 (by decide) (hT _ wd56) (fun _ h9 => h9) rfl dX0_at_22 ?_
      refine lv_iload_n hx hb dX0_at_25 rfl (lv_at hl 1 rfl) ?_
      refine li_bald hx hb hK hP 1 0 rfl rfl (z := i) (by omega) (by omega) dX0_at_26 ?_
      refine lv_sipush (v := iI 255) hx hb dX0_at_27 (by decide +kernel) ?_
      refine li_bandb hx hb dX0_at_30 ?_
      refine lv_goto (tgt := 35) hx hb dX0_at_31 (by decide) ?_
      have hP9 := hP.sub (ws' := [(b, .inr (0, [.ref r, .int (iI z)])), (r, .inl (cA, w, .inl (fun j => bI (t j))))]) [0, 1] rfl
      have hD9 := hD.sub (ws' := [(b, .inr (0, [.ref r, .int (iI z)])), (r, .inl (cA, w, .inl (fun j => bI (t j))))]) [0, 1] (by decide) rfl
      have hK9 := hK.sub (tys' := [(cA, .byte)]) [0] rfl
      exact mv_iret hx hb hr hlocks (fun tS ht hW => ⟨⟨_, (), rfl, ⟨sI (gd_in hok (by omega)), rfl, rfl⟩, by rw [ht]; exact hP9, va_K.moved hW.alike hK9, hD9⟩, hS.F ht⟩) hS.2.2 dX0_at_35
set_option maxHeartbeats 4000000 in
set_option maxRecDepth 100000 in
theorem c_B_cut (l : Launch) (dC : Nat → ClassId) (dI : Nat → Nat → Nat) (sz : Nat) (b : Nat) (r : Nat) (z : Int) (i : Int) (hz : 0 ≤ z ∧ z ≤ 4096) (hi : -2147483648 ≤ i ∧ i < 2147483648) : mv_Met l yX0_cut wsX0_cut ({ frames := 0, cells := 0, slots := 0, locals := 0 }) (va_Pc [.ref b, .int (iI i)] (fun U => U.heap.size = sz ∧ va_P (dC, dI) vwCl [(b, .inr (0, [.ref r, .int (iI z)]))] U.heap ∧ va_K (dC, dI) vwCl [] U ∧ va_D (fun _ => True) [(b, .inr (0, [.ref r, .int (iI z)]))])) (mv_Q (fun (v : Option Value) (u : Int) (k n : Nat) => match u with | (y) => (0 ≤ i ∧ i < z ∧ y = i ∨ (i < 0 ∨ z ≤ i) ∧ y = z) ∧ v = none ∧ k = 0 ∧ n = 0) (fun (u : Int) (tS : State) => match u with | (y) => va_P (dC, dI) vwCl [(b, .inr (0, [.ref r, .int (iI y)]))] tS.heap ∧ va_K (dC, dI) vwCl [] tS ∧ va_D (va_A [(b, .inr (0, [.ref r, .int (iI z)]))] sz) [(b, .inr (0, [.ref r, .int (iI y)]))]) (va_A [(b, .inr (0, [.ref r, .int (iI z)]))] sz)) (va_A [(b, .inr (0, [.ref r, .int (iI z)]))] sz) := by
  refine mv_ofW (cc := cX0_cut) (maxL := 2) (ret := none) (by decide) rfl ?_
  intro p e s m args below meth c s₁ B hml hv
  obtain ⟨rfl, hsz, hP, hK, hD0⟩ := hv
  have hx := B.exec
  have hb := B.bytes
  have hr := B.returns
  have hT : ∀ w ∈ wT, w.before _ s = true := fun w h => atoms_spec (ws := wsX0_cut) B.pre w (List.mem_cons_of_mem _ h)
  have hown : s.vm.findClass RX0 = some m.cls := findClass_of_methodNamed B.named
  have hlocks := B.notSynchronized
  subst hsz
  have hD := hD0.self (sz := s.heap.size)
  generalize hAe : va_A [(b, .inr (0, [.ref r, .int (iI z)]))] s.heap.size = A at hD ⊢
  have hA : ∀ q : Nat, s.heap.size ≤ q → A q := fun q h => by rw [← hAe]; exact Or.inr h
  have hS : va_S A s.heap s.heap [] := va_S.rf
  have hP : va_P (dC, dI) vwCl [(b, .inr (0, [.ref r, .int (iI z)]))] s.heap := hP
  have hl := lv_entry ([.ref b, .int (iI i)]) (n := 2) (Nat.le_of_ble_eq_true rfl)
  rw [lg_entry_eq]
  generalize (lg_sl ([.ref b, .int (iI i)]) ++ List.replicate (2 - (lg_sl ([.ref b, .int (iI i)])).length) Slot.unset).toArray = ls at hl ⊢
  have hl : lv_has ls 2 [(0, .ref b), (1, .int (iI i))] := hl
  refine lv_iload_n hx hb dX0_cut_0 rfl (lv_at hl 1 rfl) ?_
  refine li_if_lt (tgt := 17) hx hb (by omega) dX0_cut_1 (by decide) (fun c1 => ?_) (fun c1 => ?_)
  · skip
    have hP9 := hP.sub (ws' := [(b, .inr (0, [.ref r, .int (iI z)]))]) [0] rfl
    have hD9 := hD.sub (ws' := [(b, .inr (0, [.ref r, .int (iI z)]))]) [0] (by decide) rfl
    have hK9 := hK.sub (tys' := []) [] rfl
    exact mv_vret hx hb hr hlocks (fun tS ht hW => ⟨⟨_, (z), rfl, ⟨by omega, rfl, rfl, rfl⟩, by rw [ht]; exact hP9, va_K.moved hW.alike hK9, hD9⟩, hS.F ht⟩) hS.2.2 dX0_cut_17
  · skip
    refine lv_iload_n hx hb dX0_cut_4 rfl (lv_at hl 1 rfl) ?_
    refine lv_aload_n hx hb dX0_cut_5 rfl (lv_at hl 0 rfl) ?_
    refine va_get (D := (dC, dI)) (ci := 0) (v := .int (iI z)) (C := RX0) (T := TX0) (N := 2) hx hb hT inX0 hown hK hP 0 rfl rfl 1 (by decide) (hT _ wd57) (fun _ h9 => h9) rfl dX0_cut_6 ?_
    refine li_icmp_ge (tgt := 17) hx hb (by omega) (by omega) dX0_cut_9 (by decide) (fun c2 => ?_) (fun c2 => ?_)
    · skip
      have hP9 := hP.sub (ws' := [(b, .inr (0, [.ref r, .int (iI z)]))]) [0] rfl
      have hD9 := hD.sub (ws' := [(b, .inr (0, [.ref r, .int (iI z)]))]) [0] (by decide) rfl
      have hK9 := hK.sub (tys' := []) [] rfl
      exact mv_vret hx hb hr hlocks (fun tS ht hW => ⟨⟨_, (z), rfl, ⟨by omega, rfl, rfl, rfl⟩, by rw [ht]; exact hP9, va_K.moved hW.alike hK9, hD9⟩, hS.F ht⟩) hS.2.2 dX0_cut_17
    · skip
      refine lv_aload_n hx hb dX0_cut_12 rfl (lv_at hl 0 rfl) ?_
      refine lv_iload_n hx hb dX0_cut_13 rfl (lv_at hl 1 rfl) ?_
      refine va_put (D := (dC, dI)) (ci := 0) (v := .int (iI i)) (ty := .int) (C := RX0) (T := TX0) (N := 2) hx hb hT inX0 tyX0 tyX0_ok nX0 hown hK hP hD hS 0 rfl rfl 1 (by decide) (hT _ wd57) (fun _ h9 => h9) rfl (by decide +kernel) rfl rfl (Nat.le_of_ble_eq_true rfl) dX0_cut_14 (fun H locs hP hD hS => ?_)
      have hP : va_P (dC, dI) vwCl [(b, .inr (0, [.ref r, .int (iI i)]))] H := hP
      have hD : va_D A [(b, .inr (0, [.ref r, .int (iI i)]))] := hD
      have hP9 := hP.sub (ws' := [(b, .inr (0, [.ref r, .int (iI i)]))]) [0] rfl
      have hD9 := hD.sub (ws' := [(b, .inr (0, [.ref r, .int (iI i)]))]) [0] (by decide) rfl
      have hK9 := hK.sub (tys' := []) [] rfl
      exact mv_vret hx hb hr hlocks (fun tS ht hW => ⟨⟨_, (i), rfl, ⟨by omega, rfl, rfl, rfl⟩, by rw [ht]; exact hP9, va_K.moved hW.alike hK9, hD9⟩, hS.F ht⟩) hS.2.2 dX0_cut_17
set_option maxHeartbeats 4000000 in
set_option maxRecDepth 100000 in
theorem c_B_set (l : Launch) (dC : Nat → ClassId) (dI : Nat → Nat → Nat) (sz : Nat) (b : Nat) (r : Nat) (cA : ClassId) (w : Nat) (t : Nat → Int) (z : Int) (i : Int) (x : Int) (hw : w ≤ 4096) (hi : 0 ≤ i ∧ i < w) : mv_Met l yX0_set wsX0_set ({ frames := 0, cells := 0, slots := 0, locals := 0 }) (va_Pc [.ref b, .int (iI i), .int (iI x)] (fun U => U.heap.size = sz ∧ va_P (dC, dI) vwCl [(b, .inr (0, [.ref r, .int (iI z)])), (r, .inl (cA, w, .inl (fun j => bI (t j))))] U.heap ∧ va_K (dC, dI) vwCl [(cA, .byte)] U ∧ va_D (fun _ => True) [(b, .inr (0, [.ref r, .int (iI z)])), (r, .inl (cA, w, .inl (fun j => bI (t j))))])) (mv_Q (fun (v : Option Value) (_ : Unit) (k n : Nat) => v = none ∧ k = 0 ∧ n = 0) (fun (_ : Unit) (tS : State) => va_P (dC, dI) vwCl [(b, .inr (0, [.ref r, .int (iI z)])), (r, .inl (cA, w, .inl (fun j => bI ((vf_upd t (i : Int).toNat x) j))))] tS.heap ∧ va_K (dC, dI) vwCl [(cA, .byte)] tS ∧ va_D (va_A [(b, .inr (0, [.ref r, .int (iI z)])), (r, .inl (cA, w, .inl (fun j => bI (t j))))] sz) [(b, .inr (0, [.ref r, .int (iI z)])), (r, .inl (cA, w, .inl (fun j => bI ((vf_upd t (i : Int).toNat x) j))))]) (va_A [(b, .inr (0, [.ref r, .int (iI z)])), (r, .inl (cA, w, .inl (fun j => bI (t j))))] sz)) (va_A [(b, .inr (0, [.ref r, .int (iI z)])), (r, .inl (cA, w, .inl (fun j => bI (t j))))] sz) := by
  refine mv_ofW (cc := cX0_set) (maxL := 3) (ret := none) (by decide) rfl ?_
  intro p e s m args below meth c s₁ B hml hv
  obtain ⟨rfl, hsz, hP, hK, hD0⟩ := hv
  have hx := B.exec
  have hb := B.bytes
  have hr := B.returns
  have hT : ∀ w ∈ wT, w.before _ s = true := fun w h => atoms_spec (ws := wsX0_set) B.pre w (List.mem_cons_of_mem _ h)
  have hown : s.vm.findClass RX0 = some m.cls := findClass_of_methodNamed B.named
  have hlocks := B.notSynchronized
  subst hsz
  have hD := hD0.self (sz := s.heap.size)
  generalize hAe : va_A [(b, .inr (0, [.ref r, .int (iI z)])), (r, .inl (cA, w, .inl (fun j => bI (t j))))] s.heap.size = A at hD ⊢
  have hA : ∀ q : Nat, s.heap.size ≤ q → A q := fun q h => by rw [← hAe]; exact Or.inr h
  have hS : va_S A s.heap s.heap [] := va_S.rf
  have hP : va_P (dC, dI) vwCl [(b, .inr (0, [.ref r, .int (iI z)])), (r, .inl (cA, w, .inl (fun j => bI (t j))))] s.heap := hP
  have hl := lv_entry ([.ref b, .int (iI i), .int (iI x)]) (n := 3) (Nat.le_of_ble_eq_true rfl)
  rw [lg_entry_eq]
  generalize (lg_sl ([.ref b, .int (iI i), .int (iI x)]) ++ List.replicate (3 - (lg_sl ([.ref b, .int (iI i), .int (iI x)])).length) Slot.unset).toArray = ls at hl ⊢
  have hl : lv_has ls 3 [(0, .ref b), (1, .int (iI i)), (2, .int (iI x))] := hl
  refine lv_iload_n hx hb dX0_set_0 rfl (lv_at hl 1 rfl) ?_
  refine li_if_lt (tgt := 21) hx hb (by omega) dX0_set_1 (by decide) (fun c1 => absurd c1 (by omega)) (fun c1 => ?_)
  refine lv_iload_n hx hb dX0_set_4 rfl (lv_at hl 1 rfl) ?_
  refine lv_aload_n hx hb dX0_set_5 rfl (lv_at hl 0 rfl) ?_
  refine va_get (D := (dC, dI)) (ci := 0) (v := .ref r) (C := RX0) (T := TX0) (N := 2) hx hb hT inX0 hown hK hP 0 rfl rfl 0 (by decide) (hT _ wd56) (fun _ h9 => h9) rfl dX0_set_6 ?_
  refine li_alen hx hb hK hP 1 0 rfl rfl dX0_set_9 ?_
  refine li_icmp_ge (tgt := 21) hx hb (by omega) (by omega) dX0_set_10 (by decide) (fun c2 => absurd c2 (by omega)) (fun c2 => ?_)
  refine lv_aload_n hx hb dX0_set_13 rfl (lv_at hl 0 rfl) ?_
  refine va_get (D := (dC, dI)) (ci := 0) (v := .ref r) (C := RX0) (T := TX0) (N := 2) hx hb hT inX0 hown hK hP 0 rfl rfl 0 (by decide) (hT _ wd56) (fun _ h9 => h9) rfl dX0_set_14 ?_
  refine lv_iload_n hx hb dX0_set_17 rfl (lv_at hl 1 rfl) ?_
  refine lv_iload_n hx hb dX0_set_18 rfl (lv_at hl 2 rfl) ?_
  refine li_i2b hx hb dX0_set_19 ?_
  refine li_bast hx hb hK hP hD hS 1 0 rfl rfl (z := i) (by omega) (by omega) dX0_set_20 (fun H locs hP hD hS => ?_)
  have hP : va_P (dC, dI) vwCl [(b, .inr (0, [.ref r, .int (iI z)])), (r, .inl (cA, w, .inl (fun j => bI ((vf_upd t (i : Int).toNat x) j))))] H := hP
  have hD : va_D A [(b, .inr (0, [.ref r, .int (iI z)])), (r, .inl (cA, w, .inl (fun j => bI ((vf_upd t (i : Int).toNat x) j))))] := hD
  have hP9 := hP.sub (ws' := [(b, .inr (0, [.ref r, .int (iI z)])), (r, .inl (cA, w, .inl (fun j => bI ((vf_upd t (i : Int).toNat x) j))))]) [0, 1] rfl
  have hD9 := hD.sub (ws' := [(b, .inr (0, [.ref r, .int (iI z)])), (r, .inl (cA, w, .inl (fun j => bI ((vf_upd t (i : Int).toNat x) j))))]) [0, 1] (by decide) rfl
  have hK9 := hK.sub (tys' := [(cA, .byte)]) [0] rfl
  exact mv_vret hx hb hr hlocks (fun tS ht hW => ⟨⟨_, (), rfl, ⟨rfl, rfl, rfl⟩, by rw [ht]; exact hP9, va_K.moved hW.alike hK9, hD9⟩, hS.F ht⟩) hS.2.2 dX0_set_21
end
section
set_option maxHeartbeats 4000000 in
set_option maxRecDepth 100000 in
theorem c_copyB (l : Launch) (dC : Nat → ClassId) (dI : Nat → Nat → Nat) (sz : Nat) (r : Nat) (cA : ClassId) (w : Nat) (t : Nat → Int) (i : Int) (hw : w ≤ 100000) (hi : 0 ≤ i ∧ i ≤ 100000 ∧ ¬ i = (w : Int)) : mv_Met l yJA_copyB wsJA_copyB ({ frames := 1, cells := 1, slots := (i : Int).toNat, locals := 60 }) (va_Pc [.ref r, .int (iI i)] (fun U => U.heap.size = sz ∧ va_P (dC, dI) vwCl [(r, .inl (cA, w, .inl (fun j => bI (t j))))] U.heap ∧ va_K (dC, dI) vwCl [(cA, .byte)] U ∧ va_D (fun _ => True) [(r, .inl (cA, w, .inl (fun j => bI (t j))))])) (mv_Q (fun (v : Option Value) (u : Nat × ClassId × (Nat → Int)) (k n : Nat) => match u with | (r', cA', t') => v = some (.ref r') ∧ (∀ j : Nat, (j : Int) < i → j < w → t' j = t j) ∧ (∀ j : Nat, t' j = t j ∨ t' j = 0) ∧ k = 1 ∧ n = (i : Int).toNat) (fun (u : Nat × ClassId × (Nat → Int)) (tS : State) => match u with | (r', cA', t') => va_P (dC, dI) vwCl [(r, .inl (cA, w, .inl (fun j => bI (t j)))), (r', .inl (cA', (i : Int).toNat, .inl (fun j => bI (t' j))))] tS.heap ∧ va_K (dC, dI) vwCl [(cA, .byte), (cA', .byte)] tS ∧ va_D (va_A [(r, .inl (cA, w, .inl (fun j => bI (t j))))] sz) [(r, .inl (cA, w, .inl (fun j => bI (t j)))), (r', .inl (cA', (i : Int).toNat, .inl (fun j => bI (t' j))))]) (va_A [(r, .inl (cA, w, .inl (fun j => bI (t j))))] sz)) (va_A [(r, .inl (cA, w, .inl (fun j => bI (t j))))] sz) := by
  refine mv_ofW (cc := cJA_copyB) (maxL := 3) (ret := (some (.array .byte))) (by decide) rfl ?_
  intro p e s m args below meth c s₁ B hml hv
  obtain ⟨rfl, hsz, hP, hK, hD0⟩ := hv
  have hx := B.exec
  have hb := B.bytes
  have hr := B.returns
  have hT : ∀ w ∈ wT, w.before _ s = true := fun w h => atoms_spec (ws := wsJA_copyB) B.pre w (List.mem_cons_of_mem _ h)
  have hown : s.vm.findClass RJA = some m.cls := findClass_of_methodNamed B.named
  have hlocks := B.notSynchronized
  subst hsz
  have hD := hD0.self (sz := s.heap.size)
  generalize hAe : va_A [(r, .inl (cA, w, .inl (fun j => bI (t j))))] s.heap.size = A at hD ⊢
  have hA : ∀ q : Nat, s.heap.size ≤ q → A q := fun q h => by rw [← hAe]; exact Or.inr h
  have hS : va_S A s.heap s.heap [] := va_S.rf
  have hP : va_P (dC, dI) vwCl [(r, .inl (cA, w, .inl (fun j => bI (t j))))] s.heap := hP
  have hl := lv_entry ([.ref r, .int (iI i)]) (n := 3) (Nat.le_of_ble_eq_true rfl)
  rw [lg_entry_eq]
  generalize (lg_sl ([.ref r, .int (iI i)]) ++ List.replicate (3 - (lg_sl ([.ref r, .int (iI i)])).length) Slot.unset).toArray = ls at hl ⊢
  have hl : lv_has ls 3 [(0, .ref r), (1, .int (iI i))] := hl
  refine lv_iload_n hx hb dJA_copyB_0 rfl (lv_at hl 1 rfl) ?_
  refine lv_aload_n hx hb dJA_copyB_1 rfl (lv_at hl 0 rfl) ?_
  refine li_alen hx hb hK hP 0 0 rfl rfl dJA_copyB_2 ?_
  refine li_icmp_ne (tgt := 14) hx hb (by omega) (by omega) dJA_copyB_3 (by decide) (fun c1 => ?_) (fun c1 => absurd c1 (by omega))
  refine lv_iload_n hx hb dJA_copyB_14 rfl (lv_at hl 1 rfl) ?_
  refine va_newa (atype := .byte) (ty := .byte) (N' := (i : Int).toNat) (a0 := ((i : Int).toNat, .inl (fun j => bI ((fun _ => (0 : Int)) j)))) hx hb (hT _ wd63) rfl hK hP hD hS hA (fun cA => rfl) (by rw [← iI_0, iI_lt (by omega) (by omega)]; omega) (by rw [iI_clamp (by omega)]; try omega) (by show _ * _ ≤ _; simp only [componentBytes]; omega) (by show 0 + 1 ≤ 1; omega) (by show 0 + (i : Int).toNat ≤ (i : Int).toNat; omega) dJA_copyB_15 (fun q2 cA3 H hK hP hD hS => ?_)
  have hP : va_P (dC, dI) vwCl [(r, .inl (cA, w, .inl (fun j => bI (t j)))), (q2, .inl (cA3, (i : Int).toNat, .inl (fun j => bI ((fun _ => (0 : Int)) j))))] H := hP
  have hD : va_D A [(r, .inl (cA, w, .inl (fun j => bI (t j)))), (q2, .inl (cA3, (i : Int).toNat, .inl (fun j => bI ((fun _ => (0 : Int)) j))))] := hD
  have hK : va_K (dC, dI) vwCl [(cA, .byte), (cA3, .byte)] s := hK
  refine lv_astore_n (lv' := [(2, .ref q2), (0, .ref r), (1, .int (iI i))]) hx hb dJA_copyB_17 rfl hl (by decide) rfl (fun ls hl => ?_)
  refine lv_aload_n hx hb dJA_copyB_18 rfl (lv_at hl 1 rfl) ?_
  refine lv_iconst (v := iI 0) hx hb dJA_copyB_19 rfl ?_
  refine lv_aload_n hx hb dJA_copyB_20 rfl (lv_at hl 0 rfl) ?_
  refine lv_iconst (v := iI 0) hx hb dJA_copyB_21 rfl ?_
  refine lv_aload_n hx hb dJA_copyB_22 rfl (lv_at hl 1 rfl) ?_
  refine li_alen hx hb hK hP 0 0 rfl rfl dJA_copyB_23 ?_
  refine lv_iload_n hx hb dJA_copyB_24 rfl (lv_at hl 2 rfl) ?_
  refine li_mmin hx hb (hml.trans hl.1.symm) hown (hT _ wd242) (hT _ wd218) (hT _ wd35) (hT _ wd219) (by show 1 ≤ 1; omega) (by show 4 + 13 ≤ 60; omega) (by show 0 + 1 ≤ 1; omega) (by show 0 + (i : Int).toNat ≤ (i : Int).toNat; omega) (by omega) (by omega) dJA_copyB_25 ?_
  refine li_copyb hx hb (hml.trans hl.1.symm) hown (hT _ wd243) (hT _ wd245) (hT _ wd244) (hT _ wd37) hK hP hD hS 0 1 0 1 rfl rfl rfl rfl (by omega) (by omega) (by omega) (by omega) (by show 1 ≤ 1; omega) (by show _ ≤ 60; decide +kernel) dJA_copyB_28 (fun H locs hP hD hS => ?_)
  have hP : va_P (dC, dI) vwCl [(r, .inl (cA, w, .inl (fun j => bI (t j)))), (q2, .inl (cA3, (i : Int).toNat, .inl (fun j => bI ((va_cpy t (fun _ => (0 : Int)) (0 : Int).toNat (0 : Int).toNat ((min (w : Int) i) : Int).toNat) j))))] H := hP
  have hD : va_D A [(r, .inl (cA, w, .inl (fun j => bI (t j)))), (q2, .inl (cA3, (i : Int).toNat, .inl (fun j => bI ((va_cpy t (fun _ => (0 : Int)) (0 : Int).toNat (0 : Int).toNat ((min (w : Int) i) : Int).toNat) j))))] := hD
  refine lv_aload_n hx hb dJA_copyB_31 rfl (lv_at hl 0 rfl) ?_
  have hP9 := hP.sub (ws' := [(r, .inl (cA, w, .inl (fun j => bI (t j)))), (q2, .inl (cA3, (i : Int).toNat, .inl (fun j => bI ((va_cpy t (fun _ => (0 : Int)) (0 : Int).toNat (0 : Int).toNat ((min (w : Int) i) : Int).toNat) j))))]) [0, 1] rfl
  have hD9 := hD.sub (ws' := [(r, .inl (cA, w, .inl (fun j => bI (t j)))), (q2, .inl (cA3, (i : Int).toNat, .inl (fun j => bI ((va_cpy t (fun _ => (0 : Int)) (0 : Int).toNat (0 : Int).toNat ((min (w : Int) i) : Int).toNat) j))))]) [0, 1] (by decide) rfl
  have hK9 := hK.sub (tys' := [(cA, .byte), (cA3, .byte)]) [0, 1] rfl
  exact mv_aret hx hb hr (Or.inr ⟨_, rfl⟩) hlocks (fun tS ht hW => ⟨⟨_, (q2, cA3, (va_cpy t (fun _ => (0 : Int)) (0 : Int).toNat (0 : Int).toNat ((min (w : Int) i) : Int).toNat)), rfl, ⟨rfl, fun j h1 h2 => cpy_in (by omega), fun j => cpy_or rfl, rfl, by omega⟩, by rw [ht]; exact hP9, va_K.moved hW.alike hK9, hD9⟩, hS.F ht⟩) hS.2.2 dJA_copyB_32
set_option maxHeartbeats 4000000 in
set_option maxRecDepth 100000 in
theorem c_B_len (l : Launch) (dC : Nat → ClassId) (dI : Nat → Nat → Nat) (sz : Nat) (b : Nat) (r : Nat) (cA : ClassId) (w : Nat) (t : Nat → Int) (z : Int) (i : Int) (hw : 64 ≤ w ∧ w ≤ 4096) (hz : 0 ≤ z ∧ z ≤ w) (hi : 0 ≤ i ∧ z + i ≤ 4096) (h8 : ∀ j, 0 ≤ t j ∧ t j < 256) : mv_Met l yX0_lengthen wsX0_lengthen ({ frames := 2, cells := (phB w), slots := (phB w), locals := 100 }) (va_Pc [.ref b, .int (iI i)] (fun U => U.heap.size = sz ∧ va_P (dC, dI) vwCl [(b, .inr (0, [.ref r, .int (iI z)])), (r, .inl (cA, w, .inl (fun j => bI (t j))))] U.heap ∧ va_K (dC, dI) vwCl [(cA, .byte)] U ∧ va_D (fun _ => True) [(b, .inr (0, [.ref r, .int (iI z)])), (r, .inl (cA, w, .inl (fun j => bI (t j))))])) (mv_Q (fun (v : Option Value) (u : Nat × ClassId × Nat × (Nat → Int) × Int) (k n : Nat) => match u with | (r', cA', w', t', z') => z' = z + i ∧ 64 ≤ w' ∧ w' ≤ 4096 ∧ z + i ≤ w' ∧ (∀ j, 0 ≤ t' j ∧ t' j < 256) ∧ (∀ j : Nat, (j : Int) < z → t' j = t j) ∧ v = none ∧ n + phB w' ≤ phB w ∧ k ≤ n) (fun (u : Nat × ClassId × Nat × (Nat → Int) × Int) (tS : State) => match u with | (r', cA', w', t', z') => va_P (dC, dI) vwCl [(b, .inr (0, [.ref r', .int (iI z')])), (r', .inl (cA', w', .inl (fun j => bI (t' j))))] tS.heap ∧ va_K (dC, dI) vwCl [(cA', .byte)] tS ∧ va_D (va_A [(b, .inr (0, [.ref r, .int (iI z)])), (r, .inl (cA, w, .inl (fun j => bI (t j))))] sz) [(b, .inr (0, [.ref r', .int (iI z')])), (r', .inl (cA', w', .inl (fun j => bI (t' j))))]) (va_A [(b, .inr (0, [.ref r, .int (iI z)])), (r, .inl (cA, w, .inl (fun j => bI (t j))))] sz)) (va_A [(b, .inr (0, [.ref r, .int (iI z)])), (r, .inl (cA, w, .inl (fun j => bI (t j))))] sz) := by
  refine mv_ofW (cc := cX0_lengthen) (maxL := 3) (ret := none) (by decide) rfl ?_
  intro p e s m args below meth c s₁ B hml hv
  obtain ⟨rfl, hsz, hP, hK, hD0⟩ := hv
  have hx := B.exec
  have hb := B.bytes
  have hr := B.returns
  have hT : ∀ w ∈ wT, w.before _ s = true := fun w h => atoms_spec (ws := wsX0_lengthen) B.pre w (List.mem_cons_of_mem _ h)
  have hown : s.vm.findClass RX0 = some m.cls := findClass_of_methodNamed B.named
  have hlocks := B.notSynchronized
  subst hsz
  have hD := hD0.self (sz := s.heap.size)
  generalize hAe : va_A [(b, .inr (0, [.ref r, .int (iI z)])), (r, .inl (cA, w, .inl (fun j => bI (t j))))] s.heap.size = A at hD ⊢
  have hA : ∀ q : Nat, s.heap.size ≤ q → A q := fun q h => by rw [← hAe]; exact Or.inr h
  have hS : va_S A s.heap s.heap [] := va_S.rf
  have hP : va_P (dC, dI) vwCl [(b, .inr (0, [.ref r, .int (iI z)])), (r, .inl (cA, w, .inl (fun j => bI (t j))))] s.heap := hP
  have hl := lv_entry ([.ref b, .int (iI i)]) (n := 3) (Nat.le_of_ble_eq_true rfl)
  rw [lg_entry_eq]
  generalize (lg_sl ([.ref b, .int (iI i)]) ++ List.replicate (3 - (lg_sl ([.ref b, .int (iI i)])).length) Slot.unset).toArray = ls at hl ⊢
  have hl : lv_has ls 3 [(0, .ref b), (1, .int (iI i))] := hl
  refine lv_aload_n hx hb dX0_lengthen_0 rfl (lv_at hl 0 rfl) ?_
  refine va_get (D := (dC, dI)) (ci := 0) (v := .int (iI z)) (C := RX0) (T := TX0) (N := 2) hx hb hT inX0 hown hK hP 0 rfl rfl 1 (by decide) (hT _ wd57) (fun _ h9 => h9) rfl dX0_lengthen_1 ?_
  refine lv_iload_n hx hb dX0_lengthen_4 rfl (lv_at hl 1 rfl) ?_
  refine li_iadd hx hb dX0_lengthen_5 ?_
  refine li_nm (fun z1 ez1 => ?_)
  refine lv_istore_n (lv' := [(2, .int (iI z1)), (0, .ref b), (1, .int (iI i))]) hx hb dX0_lengthen_6 rfl hl (by decide) rfl (fun ls hl => ?_)
  refine lv_iload_n hx hb dX0_lengthen_7 rfl (lv_at hl 0 rfl) ?_
  refine lv_aload_n hx hb dX0_lengthen_8 rfl (lv_at hl 1 rfl) ?_
  refine va_get (D := (dC, dI)) (ci := 0) (v := .ref r) (C := RX0) (T := TX0) (N := 2) hx hb hT inX0 hown hK hP 0 rfl rfl 0 (by decide) (hT _ wd56) (fun _ h9 => h9) rfl dX0_lengthen_9 ?_
  refine li_alen hx hb hK hP 1 0 rfl rfl dX0_lengthen_12 ?_
  refine li_icmp_le (tgt := 44) hx hb (by omega) (by omega) dX0_lengthen_13 (by decide) (fun c2 => ?_) (fun c2 => ?_)
  · skip
    refine lv_aload_n hx hb dX0_lengthen_44 rfl (lv_at hl 1 rfl) ?_
    refine lv_iload_n hx hb dX0_lengthen_45 rfl (lv_at hl 0 rfl) ?_
    refine va_put (D := (dC, dI)) (ci := 0) (v := .int (iI z1)) (ty := .int) (C := RX0) (T := TX0) (N := 2) hx hb hT inX0 tyX0 tyX0_ok nX0 hown hK hP hD hS 0 rfl rfl 1 (by decide) (hT _ wd57) (fun _ h9 => h9) rfl (by decide +kernel) rfl rfl (Nat.le_of_ble_eq_true rfl) dX0_lengthen_46 (fun H locs hP hD hS => ?_)
    have hP : va_P (dC, dI) vwCl [(b, .inr (0, [.ref r, .int (iI z1)])), (r, .inl (cA, w, .inl (fun j => bI (t j))))] H := hP
    have hD : va_D A [(b, .inr (0, [.ref r, .int (iI z1)])), (r, .inl (cA, w, .inl (fun j => bI (t j))))] := hD
    have hP9 := hP.sub (ws' := [(b, .inr (0, [.ref r, .int (iI z1)])), (r, .inl (cA, w, .inl (fun j => bI (t j))))]) [0, 1] rfl
    have hD9 := hD.sub (ws' := [(b, .inr (0, [.ref r, .int (iI z1)])), (r, .inl (cA, w, .inl (fun j => bI (t j))))]) [0, 1] (by decide) rfl
    have hK9 := hK.sub (tys' := [(cA, .byte)]) [0] rfl
    exact mv_vret hx hb hr hlocks (fun tS ht hW => ⟨⟨_, (r, cA, w, t, z1), rfl, ⟨by omega, by omega, by omega, by omega, h8, fun _ _ => rfl, rfl, by omega, by omega⟩, by rw [ht]; exact hP9, va_K.moved hW.alike hK9, hD9⟩, hS.F ht⟩) hS.2.2 dX0_lengthen_49
  · skip
    refine lv_aload_n hx hb dX0_lengthen_16 rfl (lv_at hl 1 rfl) ?_
    refine lv_aload_n hx hb dX0_lengthen_17 rfl (lv_at hl 1 rfl) ?_
    refine va_get (D := (dC, dI)) (ci := 0) (v := .ref r) (C := RX0) (T := TX0) (N := 2) hx hb hT inX0 hown hK hP 0 rfl rfl 0 (by decide) (hT _ wd56) (fun _ h9 => h9) rfl dX0_lengthen_18 ?_
    refine lv_iload_n hx hb dX0_lengthen_21 rfl (lv_at hl 0 rfl) ?_
    refine lv_sipush (v := iI 4096) hx hb dX0_lengthen_22 (by decide +kernel) ?_
    refine lv_iconst (v := iI 2) hx hb dX0_lengthen_25 rfl ?_
    refine lv_aload_n hx hb dX0_lengthen_26 rfl (lv_at hl 1 rfl) ?_
    refine va_get (D := (dC, dI)) (ci := 0) (v := .ref r) (C := RX0) (T := TX0) (N := 2) hx hb hT inX0 hown hK hP 0 rfl rfl 0 (by decide) (hT _ wd56) (fun _ h9 => h9) rfl dX0_lengthen_27 ?_
    refine li_alen hx hb hK hP 1 0 rfl rfl dX0_lengthen_30 ?_
    refine li_imul hx hb dX0_lengthen_31 ?_
    refine li_mmin hx hb (hml.trans hl.1.symm) hown (hT _ wd217) (hT _ wd218) (hT _ wd35) (hT _ wd219) (by show 1 ≤ 2; omega) (by show 3 + 13 ≤ 100; omega) (by show 0 ≤ (phB w); omega) (by show 0 ≤ (phB w); omega) (by omega) (by omega) dX0_lengthen_32 ?_
    refine li_mmax hx hb (hml.trans hl.1.symm) hown (hT _ wd229) (hT _ wd230) (hT _ wd35) (hT _ wd231) (by show 1 ≤ 2; omega) (by show 2 + 13 ≤ 100; omega) (by show 0 ≤ (phB w); omega) (by show 0 ≤ (phB w); omega) (by omega) (by omega) dX0_lengthen_35 ?_
    have hph := phB_grow (w := w) (v := (max z1 (min 4096 (2 * (w : Int)))).toNat) (by omega) (by omega) (by omega)
    have hPc := hP.sub (ws' := [(r, .inl (cA, w, .inl (fun j => bI (t j))))]) [1] rfl
    have hDc := hD.sub (ws' := [(r, .inl (cA, w, .inl (fun j => bI (t j))))]) [1] (by decide) rfl
    have hKc := hK.sub (tys' := [(cA, .byte)]) [0] rfl
    have hFc := va_free (wc := [(r, .inl (cA, w, .inl (fun j => bI (t j))))]) hD hS hA [1] rfl
    refine mv_call (mv_runS (As := [.ref r, .int (iI (max z1 (min 4096 (2 * (w : Int)))))]) (rest := [.ref b]) ⟨hx, hb, hml, hown, hT⟩ (c_copyB l dC dI s.heap.size r cA w t (max z1 (min 4096 (2 * (w : Int)))) (by omega) (by omega)) (va_cwS 2 hT (gS2 wd232 wd233 wd36 wd234) rfl rfl rfl (by decide +kernel) ⟨show 1 + 1 ≤ 2 from by omega, show 8 + (3 + 11) + 60 ≤ 100 from by omega⟩) ⟨fun a U g mk q => by obtain ⟨q0, q1, qP, qK, qD⟩ := q; exact ⟨q0, q1, qP, va_K.moved (u := U) (U := U.calling g mk a) (Vm.Alike.refl U.vm) qK, qD⟩, fun U hU hW => ⟨rfl, by rw [hU], by rw [hU]; exact hPc, va_K.moved hW.alike hKc, hDc.weaken (fun _ _ _ _ => trivial)⟩⟩ rfl rfl hl.1 rfl (lv_room (Nat.le_of_ble_eq_true rfl)) dX0_lengthen_38 ⟨show 0 + 1 ≤ (phB w) from by omega, show 0 + (((max z1 (min 4096 (2 * (w : Int)))) : Int).toNat) ≤ (phB w) from by omega⟩) hS (fun q _ h => hFc q h) hFc (fun v5 u k3 n4 tS H1 locs ht hvm hw hB hz1 hk1 hS => ?_)
    obtain ⟨r6, cA7, t8⟩ := u
    obtain ⟨hP1, hK1, hD1⟩ := hB
    rw [ht] at hP1
    have hK1 := va_K.moved hvm.symm hK1
    try dsimp only at hw
    obtain ⟨hP, hD⟩ := va_join (wr := [(b, .inr (0, [.ref r, .int (iI z)]))]) (w1 := [(r, .inl (cA, w, .inl (fun j => bI (t j)))), (r6, .inl (cA7, ((max z1 (min 4096 (2 * (w : Int)))) : Int).toNat, .inl (fun j => bI (t8 j))))]) hP hD [1] [0] rfl rfl (by decide) (by decide) hk1 hFc hP1 hD1
    have hK := (hK.sub (tys' := []) [] rfl).app hK1
    generalize H1 = H at hP hS ⊢
    have hP : va_P (dC, dI) vwCl [(b, .inr (0, [.ref r, .int (iI z)])), (r, .inl (cA, w, .inl (fun j => bI (t j)))), (r6, .inl (cA7, ((max z1 (min 4096 (2 * (w : Int)))) : Int).toNat, .inl (fun j => bI (t8 j))))] H := hP
    have hD : va_D A [(b, .inr (0, [.ref r, .int (iI z)])), (r, .inl (cA, w, .inl (fun j => bI (t j)))), (r6, .inl (cA7, ((max z1 (min 4096 (2 * (w : Int)))) : Int).toNat, .inl (fun j => bI (t8 j))))] := hD
    have hK : va_K (dC, dI) vwCl [(cA, .byte), (cA7, .byte)] s := hK
    obtain ⟨rfl, hjv5, hiv5, rfl, rfl⟩ := hw
    refine W.eq (g2 := F0 m 41 ls [.ref r6, .ref b]) rfl ?_
    refine va_put (D := (dC, dI)) (ci := 0) (v := .ref r6) (ty := .array .byte) (C := RX0) (T := TX0) (N := 2) hx hb hT inX0 tyX0 tyX0_ok nX0 hown hK hP hD hS 0 rfl rfl 0 (by decide) (hT _ wd56) (fun _ h9 => h9) rfl (by decide +kernel) rfl rfl (Nat.le_of_ble_eq_true rfl) dX0_lengthen_41 (fun H locs hP hD hS => ?_)
    have hP : va_P (dC, dI) vwCl [(b, .inr (0, [.ref r6, .int (iI z)])), (r, .inl (cA, w, .inl (fun j => bI (t j)))), (r6, .inl (cA7, ((max z1 (min 4096 (2 * (w : Int)))) : Int).toNat, .inl (fun j => bI (t8 j))))] H := hP
    have hD : va_D A [(b, .inr (0, [.ref r6, .int (iI z)])), (r, .inl (cA, w, .inl (fun j => bI (t j)))), (r6, .inl (cA7, ((max z1 (min 4096 (2 * (w : Int)))) : Int).toNat, .inl (fun j => bI (t8 j))))] := hD
    refine lv_aload_n hx hb dX0_lengthen_44 rfl (lv_at hl 1 rfl) ?_
    refine lv_iload_n hx hb dX0_lengthen_45 rfl (lv_at hl 0 rfl) ?_
    refine va_put (D := (dC, dI)) (ci := 0) (v := .int (iI z1)) (ty := .int) (C := RX0) (T := TX0) (N := 2) hx hb hT inX0 tyX0 tyX0_ok nX0 hown hK hP hD hS 0 rfl rfl 1 (by decide) (hT _ wd57) (fun _ h9 => h9) rfl (by decide +kernel) rfl rfl (Nat.le_of_ble_eq_true rfl) dX0_lengthen_46 (fun H locs hP hD hS => ?_)
    have hP : va_P (dC, dI) vwCl [(b, .inr (0, [.ref r6, .int (iI z1)])), (r, .inl (cA, w, .inl (fun j => bI (t j)))), (r6, .inl (cA7, ((max z1 (min 4096 (2 * (w : Int)))) : Int).toNat, .inl (fun j => bI (t8 j))))] H := hP
    have hD : va_D A [(b, .inr (0, [.ref r6, .int (iI z1)])), (r, .inl (cA, w, .inl (fun j => bI (t j)))), (r6, .inl (cA7, ((max z1 (min 4096 (2 * (w : Int)))) : Int).toNat, .inl (fun j => bI (t8 j))))] := hD
    have hP9 := hP.sub (ws' := [(b, .inr (0, [.ref r6, .int (iI z1)])), (r6, .inl (cA7, (((max z1 (min 4096 (2 * (w : Int)))) : Int).toNat), .inl (fun j => bI (t8 j))))]) [0, 2] rfl
    have hD9 := hD.sub (ws' := [(b, .inr (0, [.ref r6, .int (iI z1)])), (r6, .inl (cA7, (((max z1 (min 4096 (2 * (w : Int)))) : Int).toNat), .inl (fun j => bI (t8 j))))]) [0, 2] (by decide) rfl
    have hK9 := hK.sub (tys' := [(cA7, .byte)]) [1] rfl
    exact mv_vret hx hb hr hlocks (fun tS ht hW => ⟨⟨_, (r6, cA7, ((max z1 (min 4096 (2 * (w : Int)))) : Int).toNat, t8, z1), rfl, ⟨by omega, by omega, by omega, by omega, fun j => (hiv5 j).elim (fun h => by rw [h]; exact h8 j) (fun h => by rw [h]; decide), fun j hj => hjv5 j (by omega) (by omega), rfl, by omega, by omega⟩, by rw [ht]; exact hP9, va_K.moved hW.alike hK9, hD9⟩, hS.F ht⟩) hS.2.2 dX0_lengthen_49
set_option maxHeartbeats 4000000 in
set_option maxRecDepth 100000 in
theorem c_B_app (l : Launch) (dC : Nat → ClassId) (dI : Nat → Nat → Nat) (sz : Nat) (b : Nat) (r : Nat) (cA : ClassId) (w : Nat) (t : Nat → Int) (z : Int) (L : List Int) (x : Int) (hok : okB w t z L) (hl4 : z < 4096) (hx8 : 0 ≤ x ∧ x < 256) : mv_Met l yX0_append wsX0_append ({ frames := 3, cells := (phB w), slots := (phB w), locals := 130 }) (va_Pc [.ref b, .int (iI x)] (fun U => U.heap.size = sz ∧ va_P (dC, dI) vwCl [(b, .inr (0, [.ref r, .int (iI z)])), (r, .inl (cA, w, .inl (fun j => bI (t j))))] U.heap ∧ va_K (dC, dI) vwCl [(cA, .byte)] U ∧ va_D (fun _ => True) [(b, .inr (0, [.ref r, .int (iI z)])), (r, .inl (cA, w, .inl (fun j => bI (t j))))])) (mv_Q (fun (v : Option Value) (u : Nat × ClassId × Nat × (Nat → Int) × Int) (k n : Nat) => match u with | (r', cA', w', t', z') => okB w' t' z' (L ++ [x]) ∧ (z' = z + 1 ∧ 64 ≤ w' ∧ w' ≤ 4096 ∧ z' ≤ (w' : Int)) ∧ v = none ∧ n + phB w' ≤ phB w ∧ k ≤ n) (fun (u : Nat × ClassId × Nat × (Nat → Int) × Int) (tS : State) => match u with | (r', cA', w', t', z') => va_P (dC, dI) vwCl [(b, .inr (0, [.ref r', .int (iI z')])), (r', .inl (cA', w', .inl (fun j => bI (t' j))))] tS.heap ∧ va_K (dC, dI) vwCl [(cA', .byte)] tS ∧ va_D (va_A [(b, .inr (0, [.ref r, .int (iI z)])), (r, .inl (cA, w, .inl (fun j => bI (t j))))] sz) [(b, .inr (0, [.ref r', .int (iI z')])), (r', .inl (cA', w', .inl (fun j => bI (t' j))))]) (va_A [(b, .inr (0, [.ref r, .int (iI z)])), (r, .inl (cA, w, .inl (fun j => bI (t j))))] sz)) (va_A [(b, .inr (0, [.ref r, .int (iI z)])), (r, .inl (cA, w, .inl (fun j => bI (t j))))] sz) := by
  refine mv_ofW (cc := cX0_append) (maxL := 2) (ret := none) (by decide) rfl ?_
  intro p e s m args below meth c s₁ B hml hv
  obtain ⟨rfl, hsz, hP, hK, hD0⟩ := hv
  have hx := B.exec
  have hb := B.bytes
  have hr := B.returns
  have hT : ∀ w ∈ wT, w.before _ s = true := fun w h => atoms_spec (ws := wsX0_append) B.pre w (List.mem_cons_of_mem _ h)
  have hown : s.vm.findClass RX0 = some m.cls := findClass_of_methodNamed B.named
  have hlocks := B.notSynchronized
  subst hsz
  have hD := hD0.self (sz := s.heap.size)
  generalize hAe : va_A [(b, .inr (0, [.ref r, .int (iI z)])), (r, .inl (cA, w, .inl (fun j => bI (t j))))] s.heap.size = A at hD ⊢
  have hA : ∀ q : Nat, s.heap.size ≤ q → A q := fun q h => by rw [← hAe]; exact Or.inr h
  have hS : va_S A s.heap s.heap [] := va_S.rf
  have hP : va_P (dC, dI) vwCl [(b, .inr (0, [.ref r, .int (iI z)])), (r, .inl (cA, w, .inl (fun j => bI (t j))))] s.heap := hP
  have hl := lv_entry ([.ref b, .int (iI x)]) (n := 2) (Nat.le_of_ble_eq_true rfl)
  rw [lg_entry_eq]
  generalize (lg_sl ([.ref b, .int (iI x)]) ++ List.replicate (2 - (lg_sl ([.ref b, .int (iI x)])).length) Slot.unset).toArray = ls at hl ⊢
  have hl : lv_has ls 2 [(0, .ref b), (1, .int (iI x))] := hl
  obtain ⟨hw1, hw2, hw3, hw4, hw5, hw6⟩ := id hok
  refine lv_aload_n hx hb dX0_append_0 rfl (lv_at hl 0 rfl) ?_
  refine lv_iconst (v := iI 1) hx hb dX0_append_1 rfl ?_
  have hPc := hP.sub (ws' := [(b, .inr (0, [.ref r, .int (iI z)]))]) [0] rfl
  have hDc := hD.sub (ws' := [(b, .inr (0, [.ref r, .int (iI z)]))]) [0] (by decide) rfl
  have hKc := hK.sub (tys' := []) [] rfl
  have hFc := va_free (wc := [(b, .inr (0, [.ref r, .int (iI z)]))]) hD hS hA [0] rfl
  refine mv_call (mv_runV (As := [.int (iI 1)]) (rest := []) ⟨hx, hb, hml, hown, hT⟩ (c_B_room l dC dI s.heap.size b r z 1 (by omega) (by omega)) (cwV 1 hT (gV wd224 wd142 wd143 wd27 wd144) rfl rfl rfl (by decide +kernel) ⟨show 0 + 1 ≤ 3 from by omega, show 8 + (2 + 11) + 0 ≤ 130 from by omega⟩) ⟨fun a U g mk q => by obtain ⟨q0, q1, qP, qK, qD⟩ := q; exact ⟨q0, q1, qP, va_K.moved (u := U) (U := U.calling g mk a) (Vm.Alike.refl U.vm) qK, qD⟩, va_recv hKc hPc (ci := 0) (q0 := 0) rfl rfl, fun U hU hW => ⟨rfl, by rw [hU], by rw [hU]; exact hPc, va_K.moved hW.alike hKc, hDc.weaken (fun _ _ _ _ => trivial)⟩⟩ rfl rfl hl.1 rfl (lv_room (Nat.le_of_ble_eq_true rfl)) dX0_append_2 ⟨show 0 + 0 ≤ (phB w) from by omega, show 0 + 0 ≤ (phB w) from by omega⟩) hS (fun q _ h => hFc q h) hFc (fun v3 u k1 n2 tS H1 locs ht hvm hw hB hz1 hk1 hS => ?_)
  obtain ⟨q4, rfl⟩ : ∃ y, y = u := ⟨_, rfl⟩
  obtain ⟨hP1, hK1, hD1⟩ := hB
  rw [ht] at hP1
  have hK1 := va_K.moved hvm.symm hK1
  try dsimp only at hw
  obtain ⟨hP, hD⟩ := va_join (wr := [(r, .inl (cA, w, .inl (fun j => bI (t j))))]) (w1 := [(b, .inr (0, [.ref r, .int (iI z)]))]) hP hD [0] [1] rfl rfl (by decide) (by decide) hk1 hFc hP1 hD1
  have hK := (hK.sub (tys' := [(cA, .byte)]) [0] rfl).app hK1
  generalize H1 = H at hP hS ⊢
  have hP : va_P (dC, dI) vwCl [(r, .inl (cA, w, .inl (fun j => bI (t j)))), (b, .inr (0, [.ref r, .int (iI z)]))] H := hP
  have hD : va_D A [(r, .inl (cA, w, .inl (fun j => bI (t j)))), (b, .inr (0, [.ref r, .int (iI z)]))] := hD
  have hK : va_K (dC, dI) vwCl [(cA, .byte)] s := hK
  obtain ⟨rfl, hq4, rfl, rfl⟩ := hw
  refine W.eq (g2 := F0 m 5 ls [.int (iI q4)]) rfl ?_
  refine li_if_eq (tgt := 24) hx hb (by omega) dX0_append_5 (by decide) (fun c5 => absurd c5 (by omega)) (fun c5 => ?_)
  refine lv_aload_n hx hb dX0_append_8 rfl (lv_at hl 0 rfl) ?_
  refine lv_iconst (v := iI 1) hx hb dX0_append_9 rfl ?_
  have hPc := hP.sub (ws' := [(b, .inr (0, [.ref r, .int (iI z)])), (r, .inl (cA, w, .inl (fun j => bI (t j))))]) [1, 0] rfl
  have hDc := hD.sub (ws' := [(b, .inr (0, [.ref r, .int (iI z)])), (r, .inl (cA, w, .inl (fun j => bI (t j))))]) [1, 0] (by decide) rfl
  have hKc := hK.sub (tys' := [(cA, .byte)]) [0] rfl
  have hFc := va_free (wc := [(b, .inr (0, [.ref r, .int (iI z)])), (r, .inl (cA, w, .inl (fun j => bI (t j))))]) hD hS hA [1, 0] rfl
  refine mv_call (mv_runV (As := [.int (iI 1)]) (rest := []) ⟨hx, hb, hml, hown, hT⟩ (c_B_len l dC dI H.size b r cA w t z 1 (by omega) (by omega) (by omega) (hw5)) (cwV 1 hT (gV wd225 wd227 wd1 wd27 wd228) rfl rfl rfl (by decide +kernel) ⟨show 2 + 1 ≤ 3 from by omega, show 8 + (3 + 11) + 100 ≤ 130 from by omega⟩) ⟨fun a U g mk q => by obtain ⟨q0, q1, qP, qK, qD⟩ := q; exact ⟨q0, q1, qP, va_K.moved (u := U) (U := U.calling g mk a) (Vm.Alike.refl U.vm) qK, qD⟩, va_recv hKc hPc (ci := 0) (q0 := 0) rfl rfl, fun U hU hW => ⟨rfl, by rw [hU], by rw [hU]; exact hPc, va_K.moved hW.alike hKc, hDc.weaken (fun _ _ _ _ => trivial)⟩⟩ rfl rfl hl.1 rfl (lv_room (Nat.le_of_ble_eq_true rfl)) dX0_append_10 ⟨show 0 + 0 + (phB w) ≤ (phB w) from by omega, show 0 + 0 + (phB w) ≤ (phB w) from by omega⟩) hS (fun q _ h => hFc q h) hFc (fun v8 u k6 n7 tS H1 locs ht hvm hw hB hz1 hk1 hS => ?_)
  obtain ⟨r9, cA10, w11, t12, z13⟩ := u
  obtain ⟨hP1, hK1, hD1⟩ := hB
  rw [ht] at hP1
  have hK1 := va_K.moved hvm.symm hK1
  try dsimp only at hw
  obtain ⟨hP, hD⟩ := va_join (wr := []) (w1 := [(b, .inr (0, [.ref r9, .int (iI z13)])), (r9, .inl (cA10, w11, .inl (fun j => bI (t12 j))))]) hP hD [1, 0] [] rfl rfl (by decide) (by decide) hk1 hFc hP1 hD1
  have hK := (hK.sub (tys' := []) [] rfl).app hK1
  generalize H1 = H at hP hS ⊢
  have hP : va_P (dC, dI) vwCl [(b, .inr (0, [.ref r9, .int (iI z13)])), (r9, .inl (cA10, w11, .inl (fun j => bI (t12 j))))] H := hP
  have hD : va_D A [(b, .inr (0, [.ref r9, .int (iI z13)])), (r9, .inl (cA10, w11, .inl (fun j => bI (t12 j))))] := hD
  have hK : va_K (dC, dI) vwCl [(cA10, .byte)] s := hK
  obtain ⟨ev8, hAv8, hBv8, hCv8, hDv8, hEv8, rfl, hFv8, hGv8⟩ := hw
  refine W.eq (g2 := F0 m 13 ls []) rfl ?_
  refine lv_aload_n hx hb dX0_append_13 rfl (lv_at hl 0 rfl) ?_
  refine lv_aload_n hx hb dX0_append_14 rfl (lv_at hl 0 rfl) ?_
  refine va_get (D := (dC, dI)) (ci := 0) (v := .int (iI z13)) (C := RX0) (T := TX0) (N := 2) hx hb hT inX0 hown hK hP 0 rfl rfl 1 (by decide) (hT _ wd57) (fun _ h9 => h9) rfl dX0_append_15 ?_
  refine lv_iconst (v := iI 1) hx hb dX0_append_18 rfl ?_
  refine li_isub hx hb dX0_append_19 ?_
  refine lv_iload_n hx hb dX0_append_20 rfl (lv_at hl 1 rfl) ?_
  have hPc := hP.sub (ws' := [(b, .inr (0, [.ref r9, .int (iI z13)])), (r9, .inl (cA10, w11, .inl (fun j => bI (t12 j))))]) [0, 1] rfl
  have hDc := hD.sub (ws' := [(b, .inr (0, [.ref r9, .int (iI z13)])), (r9, .inl (cA10, w11, .inl (fun j => bI (t12 j))))]) [0, 1] (by decide) rfl
  have hKc := hK.sub (tys' := [(cA10, .byte)]) [0] rfl
  have hFc := va_free (wc := [(b, .inr (0, [.ref r9, .int (iI z13)])), (r9, .inl (cA10, w11, .inl (fun j => bI (t12 j))))]) hD hS hA [0, 1] rfl
  refine mv_call (mv_runV (As := [.int (iI (z13 - 1)), .int (iI x)]) (rest := []) ⟨hx, hb, hml, hown, hT⟩ (c_B_set l dC dI H.size b r9 cA10 w11 t12 z13 (z13 - 1) x (by omega) (by omega)) (cwV 2 hT (gV wd246 wd248 wd2 wd27 wd249) rfl rfl rfl (by decide +kernel) ⟨show 0 + 1 ≤ 3 from by omega, show 8 + (3 + 11) + 0 ≤ 130 from by omega⟩) ⟨fun a U g mk q => by obtain ⟨q0, q1, qP, qK, qD⟩ := q; exact ⟨q0, q1, qP, va_K.moved (u := U) (U := U.calling g mk a) (Vm.Alike.refl U.vm) qK, qD⟩, va_recv hKc hPc (ci := 0) (q0 := 0) rfl rfl, fun U hU hW => ⟨rfl, by rw [hU], by rw [hU]; exact hPc, va_K.moved hW.alike hKc, hDc.weaken (fun _ _ _ _ => trivial)⟩⟩ rfl rfl hl.1 rfl (lv_room (Nat.le_of_ble_eq_true rfl)) dX0_append_21 ⟨show 0 + 0 + k6 + 0 ≤ (phB w) from by omega, show 0 + 0 + n7 + 0 ≤ (phB w) from by omega⟩) hS (fun q _ h => hFc q h) hFc (fun v16 u k14 n15 tS H1 locs ht hvm hw hB hz1 hk1 hS => ?_)
  obtain ⟨hP1, hK1, hD1⟩ := hB
  rw [ht] at hP1
  have hK1 := va_K.moved hvm.symm hK1
  try dsimp only at hw
  obtain ⟨hP, hD⟩ := va_join (wr := []) (w1 := [(b, .inr (0, [.ref r9, .int (iI z13)])), (r9, .inl (cA10, w11, .inl (fun j => bI ((vf_upd t12 ((z13 - 1) : Int).toNat x) j))))]) hP hD [0, 1] [] rfl rfl (by decide) (by decide) hk1 hFc hP1 hD1
  have hK := (hK.sub (tys' := []) [] rfl).app hK1
  generalize H1 = H at hP hS ⊢
  have hP : va_P (dC, dI) vwCl [(b, .inr (0, [.ref r9, .int (iI z13)])), (r9, .inl (cA10, w11, .inl (fun j => bI ((vf_upd t12 ((z13 - 1) : Int).toNat x) j))))] H := hP
  have hD : va_D A [(b, .inr (0, [.ref r9, .int (iI z13)])), (r9, .inl (cA10, w11, .inl (fun j => bI ((vf_upd t12 ((z13 - 1) : Int).toNat x) j))))] := hD
  have hK : va_K (dC, dI) vwCl [(cA10, .byte)] s := hK
  obtain ⟨rfl, rfl, rfl⟩ := hw
  refine W.eq (g2 := F0 m 24 ls []) rfl ?_
  have hP9 := hP.sub (ws' := [(b, .inr (0, [.ref r9, .int (iI z13)])), (r9, .inl (cA10, w11, .inl (fun j => bI ((vf_upd t12 ((z13 - 1) : Int).toNat x) j))))]) [0, 1] rfl
  have hD9 := hD.sub (ws' := [(b, .inr (0, [.ref r9, .int (iI z13)])), (r9, .inl (cA10, w11, .inl (fun j => bI ((vf_upd t12 ((z13 - 1) : Int).toNat x) j))))]) [0, 1] (by decide) rfl
  have hK9 := hK.sub (tys' := [(cA10, .byte)]) [0] rfl
  exact mv_vret hx hb hr hlocks (fun tS ht hW => ⟨⟨_, (r9, cA10, w11, (vf_upd t12 ((z13 - 1) : Int).toNat x), z13), rfl, ⟨okB_app hok (by omega) hDv8 hEv8 hx8 (by omega) (by omega), by omega, rfl, by omega, by omega⟩, by rw [ht]; exact hP9, va_K.moved hW.alike hK9, hD9⟩, hS.F ht⟩) hS.2.2 dX0_append_24
set_option maxHeartbeats 4000000 in
set_option maxRecDepth 100000 in
theorem c_B_num (l : Launch) (dC : Nat → ClassId) (dI : Nat → Nat → Nat) (sz : Nat) (b : Nat) (r : Nat) (cA : ClassId) (w : Nat) (t : Nat → Int) (z : Int) (L : List Int) (x : Int) (i : Int) (hok : okB w t z L) (hi : 0 ≤ i ∧ i ≤ 8) (hl4 : z + i ≤ 4096) (hx8 : -9223372036854775808 ≤ x ∧ x < 9223372036854775808) : mv_Met l yX0_appendNumber wsX0_appendNumber ({ frames := 4, cells := (phB w), slots := (phB w), locals := 160 }) (va_Pc [.ref b, .long (lI x), .int (iI i)] (fun U => U.heap.size = sz ∧ va_P (dC, dI) vwCl [(b, .inr (0, [.ref r, .int (iI z)])), (r, .inl (cA, w, .inl (fun j => bI (t j))))] U.heap ∧ va_K (dC, dI) vwCl [(cA, .byte)] U ∧ va_D (fun _ => True) [(b, .inr (0, [.ref r, .int (iI z)])), (r, .inl (cA, w, .inl (fun j => bI (t j))))])) (mv_Q (fun (v : Option Value) (u : Nat × ClassId × Nat × (Nat → Int) × Int) (k n : Nat) => match u with | (r', cA', w', t', z') => okB w' t' z' (L ++ nb x (i : Int).toNat) ∧ (z' = z + i ∧ 64 ≤ w' ∧ w' ≤ 4096 ∧ z' ≤ (w' : Int)) ∧ v = none ∧ n + phB w' ≤ phB w ∧ k ≤ n) (fun (u : Nat × ClassId × Nat × (Nat → Int) × Int) (tS : State) => match u with | (r', cA', w', t', z') => va_P (dC, dI) vwCl [(b, .inr (0, [.ref r', .int (iI z')])), (r', .inl (cA', w', .inl (fun j => bI (t' j))))] tS.heap ∧ va_K (dC, dI) vwCl [(cA', .byte)] tS ∧ va_D (va_A [(b, .inr (0, [.ref r, .int (iI z)])), (r, .inl (cA, w, .inl (fun j => bI (t j))))] sz) [(b, .inr (0, [.ref r', .int (iI z')])), (r', .inl (cA', w', .inl (fun j => bI (t' j))))]) (va_A [(b, .inr (0, [.ref r, .int (iI z)])), (r, .inl (cA, w, .inl (fun j => bI (t j))))] sz)) (va_A [(b, .inr (0, [.ref r, .int (iI z)])), (r, .inl (cA, w, .inl (fun j => bI (t j))))] sz) := by
  refine mv_ofW (cc := cX0_appendNumber) (maxL := 5) (ret := none) (by decide) rfl ?_
  intro p e s m args below meth c s₁ B hml hv
  obtain ⟨rfl, hsz, hP, hK, hD0⟩ := hv
  have hx := B.exec
  have hb := B.bytes
  have hr := B.returns
  have hT : ∀ w ∈ wT, w.before _ s = true := fun w h => atoms_spec (ws := wsX0_appendNumber) B.pre w (List.mem_cons_of_mem _ h)
  have hown : s.vm.findClass RX0 = some m.cls := findClass_of_methodNamed B.named
  have hlocks := B.notSynchronized
  subst hsz
  have hD := hD0.self (sz := s.heap.size)
  generalize hAe : va_A [(b, .inr (0, [.ref r, .int (iI z)])), (r, .inl (cA, w, .inl (fun j => bI (t j))))] s.heap.size = A at hD ⊢
  have hA : ∀ q : Nat, s.heap.size ≤ q → A q := fun q h => by rw [← hAe]; exact Or.inr h
  have hS : va_S A s.heap s.heap [] := va_S.rf
  have hP : va_P (dC, dI) vwCl [(b, .inr (0, [.ref r, .int (iI z)])), (r, .inl (cA, w, .inl (fun j => bI (t j))))] s.heap := hP
  have hl := lv_entry ([.ref b, .long (lI x), .int (iI i)]) (n := 5) (Nat.le_of_ble_eq_true rfl)
  rw [lg_entry_eq]
  generalize (lg_sl ([.ref b, .long (lI x), .int (iI i)]) ++ List.replicate (5 - (lg_sl ([.ref b, .long (lI x), .int (iI i)])).length) Slot.unset).toArray = ls at hl ⊢
  have hl : lv_has ls 5 [(0, .ref b), (1, .long (lI x)), (3, .int (iI i))] := hl
  obtain ⟨hw1, hw2, hw3, hw4, hw5, hw6⟩ := id hok
  refine mv_nameQ (fun Q9 hQ9 => ?_)
  have LP : ∀ (fu : Nat) (i1 : Int) (r1 : Nat) (cA1 : ClassId) (w1 : Nat) (t1 : Nat → Int) (z1 : Int) (L1 : List Int) (H : Heap) (locs : List Loc) (ls : Array Slot) (kc ks : Nat), (i1 + 1 < (fu : Int)) → (-1 ≤ i1 ∧ i1 ≤ 7) → (okB w1 t1 z1 L1) → (z1 + (i1 + 1) = z + i) → (L1 ++ nb x (i1 + 1).toNat = L ++ nb x (i : Int).toNat) → (ks + phB w1 ≤ phB w) → (kc ≤ ks) → va_K (dC, dI) vwCl [(cA1, .byte)] s → va_P (dC, dI) vwCl [(b, .inr (0, [.ref r1, .int (iI z1)])), (r1, .inl (cA1, w1, .inl (fun j => bI (t1 j))))] H → va_D A [(b, .inr (0, [.ref r1, .int (iI z1)])), (r1, .inl (cA1, w1, .inl (fun j => bI (t1 j))))] → va_S A s.heap H locs → lv_has ls 5 [(0, .ref b), (1, .long (lI x)), (3, .int (iI i)), (4, .int (iI i1))] → W p l e ({ frames := 4, cells := (phB w), slots := (phB w), locals := 160 }) s m ([.ref b, .long (lI x), .int (iI i)] : List Value).toArray below meth c H locs kc ks Q9 (F0 m 10 ls []) := by
    intro fu
    induction fu with
    | zero =>
      intro i1 r1 cA1 w1 t1 z1 L1 H locs ls kc ks hfu hi1 hok1 hl1 hL1 hks hkc hK hP hD hS hl
      exfalso
      omega
    | succ fu ih =>
      intro i1 r1 cA1 w1 t1 z1 L1 H locs ls kc ks hfu hi1 hok1 hl1 hL1 hks hkc hK hP hD hS hl
      obtain ⟨a1, a2, a3, a4, a5, a6⟩ := id hok1
      refine lv_iload hx hb dX0_appendNumber_10 (lv_at hl 3 rfl) ?_
      refine li_if_lt (tgt := 37) hx hb (by omega) dX0_appendNumber_12 (by decide) (fun c1 => ?_) (fun c1 => ?_)
      · skip
        have hend : L1 = L ++ nb x (i : Int).toNat := by rw [← hL1, show (i1 + 1).toNat = 0 by omega]; simp [nb]
        subst hQ9
        have hP9 := hP.sub (ws' := [(b, .inr (0, [.ref r1, .int (iI z1)])), (r1, .inl (cA1, w1, .inl (fun j => bI (t1 j))))]) [0, 1] rfl
        have hD9 := hD.sub (ws' := [(b, .inr (0, [.ref r1, .int (iI z1)])), (r1, .inl (cA1, w1, .inl (fun j => bI (t1 j))))]) [0, 1] (by decide) rfl
        have hK9 := hK.sub (tys' := [(cA1, .byte)]) [0] rfl
        exact mv_vret hx hb hr hlocks (fun tS ht hW => ⟨⟨_, (r1, cA1, w1, t1, z1), rfl, ⟨hend ▸ hok1, by omega, rfl, by omega, by omega⟩, by rw [ht]; exact hP9, va_K.moved hW.alike hK9, hD9⟩, hS.F ht⟩) hS.2.2 dX0_appendNumber_37
      · skip
        refine lv_aload_n hx hb dX0_appendNumber_15 rfl (lv_at hl 0 rfl) ?_
        refine lv_lload_n hx hb dX0_appendNumber_16 rfl (lv_at hl 1 rfl) ?_
        refine lv_bipush (v := iI 8) hx hb dX0_appendNumber_17 (by decide +kernel) ?_
        refine lv_iload hx hb dX0_appendNumber_19 (lv_at hl 3 rfl) ?_
        refine li_imul hx hb dX0_appendNumber_21 ?_
        refine li_lshr hx hb (by omega) (by omega) dX0_appendNumber_22 ?_
        refine li_l2i hx hb dX0_appendNumber_23 ?_
        refine lv_sipush (v := iI 255) hx hb dX0_appendNumber_24 (by decide +kernel) ?_
        refine li_iand255 hx hb dX0_appendNumber_27 ?_
        have hPc := hP.sub (ws' := [(b, .inr (0, [.ref r1, .int (iI z1)])), (r1, .inl (cA1, w1, .inl (fun j => bI (t1 j))))]) [0, 1] rfl
        have hDc := hD.sub (ws' := [(b, .inr (0, [.ref r1, .int (iI z1)])), (r1, .inl (cA1, w1, .inl (fun j => bI (t1 j))))]) [0, 1] (by decide) rfl
        have hKc := hK.sub (tys' := [(cA1, .byte)]) [0] rfl
        have hFc := va_free (wc := [(b, .inr (0, [.ref r1, .int (iI z1)])), (r1, .inl (cA1, w1, .inl (fun j => bI (t1 j))))]) hD hS hA [0, 1] rfl
        refine mv_call (mv_runV (As := [.int (iI ((x / 2 ^ ((8 * i1) : Int).toNat) % 256))]) (rest := []) ⟨hx, hb, hml, hown, hT⟩ (c_B_app l dC dI H.size b r1 cA1 w1 t1 z1 L1 ((x / 2 ^ ((8 * i1) : Int).toNat) % 256) (hok1) (by omega) (by omega)) (cwV 1 hT (gV wd220 wd221 wd222 wd27 wd223) rfl rfl rfl (by decide +kernel) ⟨show 3 + 1 ≤ 4 from by omega, show 8 + (2 + 11) + 130 ≤ 160 from by omega⟩) ⟨fun a U g mk q => by obtain ⟨q0, q1, qP, qK, qD⟩ := q; exact ⟨q0, q1, qP, va_K.moved (u := U) (U := U.calling g mk a) (Vm.Alike.refl U.vm) qK, qD⟩, va_recv hKc hPc (ci := 0) (q0 := 0) rfl rfl, fun U hU hW => ⟨rfl, by rw [hU], by rw [hU]; exact hPc, va_K.moved hW.alike hKc, hDc.weaken (fun _ _ _ _ => trivial)⟩⟩ rfl rfl hl.1 rfl (lv_room (Nat.le_of_ble_eq_true rfl)) dX0_appendNumber_28 ⟨show kc + (phB w1) ≤ (phB w) from by omega, show ks + (phB w1) ≤ (phB w) from by omega⟩) hS (fun q _ h => hFc q h) hFc (fun v4 u k2 n3 tS H1 locs ht hvm hw hB hz1 hk1 hS => ?_)
        obtain ⟨r5, cA6, w7, t8, z9⟩ := u
        obtain ⟨hP1, hK1, hD1⟩ := hB
        rw [ht] at hP1
        have hK1 := va_K.moved hvm.symm hK1
        try dsimp only at hw
        obtain ⟨hP, hD⟩ := va_join (wr := []) (w1 := [(b, .inr (0, [.ref r5, .int (iI z9)])), (r5, .inl (cA6, w7, .inl (fun j => bI (t8 j))))]) hP hD [0, 1] [] rfl rfl (by decide) (by decide) hk1 hFc hP1 hD1
        have hK := (hK.sub (tys' := []) [] rfl).app hK1
        generalize H1 = H at hP hS ⊢
        have hP : va_P (dC, dI) vwCl [(b, .inr (0, [.ref r5, .int (iI z9)])), (r5, .inl (cA6, w7, .inl (fun j => bI (t8 j))))] H := hP
        have hD : va_D A [(b, .inr (0, [.ref r5, .int (iI z9)])), (r5, .inl (cA6, w7, .inl (fun j => bI (t8 j))))] := hD
        have hK : va_K (dC, dI) vwCl [(cA6, .byte)] s := hK
        obtain ⟨hokv4, hNv4, rfl, hFv4, hGv4⟩ := hw
        refine W.eq (g2 := F0 m 31 ls []) rfl ?_
        obtain ⟨z10, ez10⟩ : ∃ y : Int, y = i1 + (-1) := ⟨_, rfl⟩
        refine lv_iinc (v := iI z10) (lv' := [(4, .int (iI z10)), (0, .ref b), (1, .long (lI x)), (3, .int (iI i))]) hx hb dX0_appendNumber_31 hl (k := 3) rfl (by rw [ez10]; exact iI_add _ _) (by decide) rfl (fun ls hl => ?_)
        refine lv_goto (tgt := 10) hx hb dX0_appendNumber_34 (by decide) ?_
        exact ih z10 r5 cA6 w7 t8 z9 (L1 ++ [((x / 2 ^ ((8 * i1) : Int).toNat) % 256)]) _ _ _ _ _ (by omega) (by omega) (hokv4) (by omega) (by rw [List.append_assoc, ← hL1, nb_step x (i := i1) (by omega), p8 (by omega), show (z10 + 1).toNat = i1.toNat by omega]; rfl) (by omega) (by omega) (hK.sub [0] rfl) (hP.sub [0, 1] rfl) (hD.sub [0, 1] (by decide) rfl) hS (lv_sub hl [1, 2, 3, 0] rfl)
  refine lv_iload_n hx hb dX0_appendNumber_0 rfl (lv_at hl 2 rfl) ?_
  refine lv_bipush (v := iI 8) hx hb dX0_appendNumber_1 (by decide +kernel) ?_
  refine li_mmin hx hb (hml.trans hl.1.symm) hown (hT _ wd217) (hT _ wd218) (hT _ wd35) (hT _ wd219) (by show 1 ≤ 4; omega) (by show 0 + 13 ≤ 160; omega) (by show 0 ≤ (phB w); omega) (by show 0 ≤ (phB w); omega) (by omega) (by omega) dX0_appendNumber_3 ?_
  refine lv_iconst (v := iI 1) hx hb dX0_appendNumber_6 rfl ?_
  refine li_isub hx hb dX0_appendNumber_7 ?_
  refine li_nm (fun z11 ez11 => ?_)
  refine lv_istore (lv' := [(4, .int (iI z11)), (0, .ref b), (1, .long (lI x)), (3, .int (iI i))]) hx hb dX0_appendNumber_8 hl (by decide) rfl (fun ls hl => ?_)
  exact LP (10) z11 r cA w t z L _ _ _ _ _ (by omega) (by omega) (hok) (by omega) (by rw [show (z11 + 1).toNat = (i : Int).toNat by omega]) (by omega) (by omega) (hK.sub [0] rfl) (hP.sub [0, 1] rfl) (hD.sub [0, 1] (by decide) rfl) hS (lv_sub hl [1, 2, 3, 0] rfl)
end
section
set_option maxHeartbeats 4000000 in
set_option maxRecDepth 100000 in
theorem c_B_lay (l : Launch) (dC : Nat → ClassId) (dI : Nat → Nat → Nat) (sz : Nat) (b : Nat) (r : Nat) (cA : ClassId) (w : Nat) (t : Nat → Int) (z : Int) (r2 : Nat) (cA2 : ClassId) (w2 : Nat) (t2 : Nat → Int) (x : Int) (y : Int) (hw : w ≤ 4096 ∧ w2 ≤ 4096) (hx8 : 0 ≤ x ∧ x ≤ w2) (hy : 0 ≤ y ∧ y + x ≤ w) : mv_Met l yX0_layOver wsX0_layOver ({ frames := 1, cells := 0, slots := 0, locals := 60 }) (va_Pc [.ref b, .ref r2, .int (iI x), .int (iI y)] (fun U => U.heap.size = sz ∧ va_P (dC, dI) vwCl [(b, .inr (0, [.ref r, .int (iI z)])), (r, .inl (cA, w, .inl (fun j => bI (t j)))), (r2, .inl (cA2, w2, .inl (fun j => bI (t2 j))))] U.heap ∧ va_K (dC, dI) vwCl [(cA, .byte), (cA2, .byte)] U ∧ va_D (fun _ => True) [(b, .inr (0, [.ref r, .int (iI z)])), (r, .inl (cA, w, .inl (fun j => bI (t j)))), (r2, .inl (cA2, w2, .inl (fun j => bI (t2 j))))])) (mv_Q (fun (v : Option Value) (_ : Unit) (k n : Nat) => v = none ∧ k = 0 ∧ n = 0) (fun (_ : Unit) (tS : State) => va_P (dC, dI) vwCl [(b, .inr (0, [.ref r, .int (iI z)])), (r, .inl (cA, w, .inl (fun j => bI ((va_cpy t2 t (0 : Int).toNat (y : Int).toNat (x : Int).toNat) j)))), (r2, .inl (cA2, w2, .inl (fun j => bI (t2 j))))] tS.heap ∧ va_K (dC, dI) vwCl [(cA, .byte), (cA2, .byte)] tS ∧ va_D (va_A [(b, .inr (0, [.ref r, .int (iI z)])), (r, .inl (cA, w, .inl (fun j => bI (t j)))), (r2, .inl (cA2, w2, .inl (fun j => bI (t2 j))))] sz) [(b, .inr (0, [.ref r, .int (iI z)])), (r, .inl (cA, w, .inl (fun j => bI ((va_cpy t2 t (0 : Int).toNat (y : Int).toNat (x : Int).toNat) j)))), (r2, .inl (cA2, w2, .inl (fun j => bI (t2 j))))]) (va_A [(b, .inr (0, [.ref r, .int (iI z)])), (r, .inl (cA, w, .inl (fun j => bI (t j)))), (r2, .inl (cA2, w2, .inl (fun j => bI (t2 j))))] sz)) (va_A [(b, .inr (0, [.ref r, .int (iI z)])), (r, .inl (cA, w, .inl (fun j => bI (t j)))), (r2, .inl (cA2, w2, .inl (fun j => bI (t2 j))))] sz) := by
  refine mv_ofW (cc := cX0_layOver) (maxL := 4) (ret := none) (by decide) rfl ?_
  intro p e s m args below meth c s₁ B hml hv
  obtain ⟨rfl, hsz, hP, hK, hD0⟩ := hv
  have hx := B.exec
  have hb := B.bytes
  have hr := B.returns
  have hT : ∀ w ∈ wT, w.before _ s = true := fun w h => atoms_spec (ws := wsX0_layOver) B.pre w (List.mem_cons_of_mem _ h)
  have hown : s.vm.findClass RX0 = some m.cls := findClass_of_methodNamed B.named
  have hlocks := B.notSynchronized
  subst hsz
  have hD := hD0.self (sz := s.heap.size)
  generalize hAe : va_A [(b, .inr (0, [.ref r, .int (iI z)])), (r, .inl (cA, w, .inl (fun j => bI (t j)))), (r2, .inl (cA2, w2, .inl (fun j => bI (t2 j))))] s.heap.size = A at hD ⊢
  have hA : ∀ q : Nat, s.heap.size ≤ q → A q := fun q h => by rw [← hAe]; exact Or.inr h
  have hS : va_S A s.heap s.heap [] := va_S.rf
  have hP : va_P (dC, dI) vwCl [(b, .inr (0, [.ref r, .int (iI z)])), (r, .inl (cA, w, .inl (fun j => bI (t j)))), (r2, .inl (cA2, w2, .inl (fun j => bI (t2 j))))] s.heap := hP
  have hl := lv_entry ([.ref b, .ref r2, .int (iI x), .int (iI y)]) (n := 4) (Nat.le_of_ble_eq_true rfl)
  rw [lg_entry_eq]
  generalize (lg_sl ([.ref b, .ref r2, .int (iI x), .int (iI y)]) ++ List.replicate (4 - (lg_sl ([.ref b, .ref r2, .int (iI x), .int (iI y)])).length) Slot.unset).toArray = ls at hl ⊢
  have hl : lv_has ls 4 [(0, .ref b), (1, .ref r2), (2, .int (iI x)), (3, .int (iI y))] := hl
  refine lv_iload_n hx hb dX0_layOver_0 rfl (lv_at hl 2 rfl) ?_
  refine li_if_lt (tgt := 36) hx hb (by omega) dX0_layOver_1 (by decide) (fun c1 => absurd c1 (by omega)) (fun c1 => ?_)
  refine lv_iload_n hx hb dX0_layOver_4 rfl (lv_at hl 2 rfl) ?_
  refine lv_aload_n hx hb dX0_layOver_5 rfl (lv_at hl 1 rfl) ?_
  refine li_alen hx hb hK hP 2 1 rfl rfl dX0_layOver_6 ?_
  refine li_icmp_gt (tgt := 36) hx hb (by omega) (by omega) dX0_layOver_7 (by decide) (fun c2 => absurd c2 (by omega)) (fun c2 => ?_)
  refine lv_iload_n hx hb dX0_layOver_10 rfl (lv_at hl 3 rfl) ?_
  refine li_if_lt (tgt := 36) hx hb (by omega) dX0_layOver_11 (by decide) (fun c3 => absurd c3 (by omega)) (fun c3 => ?_)
  refine lv_iload_n hx hb dX0_layOver_14 rfl (lv_at hl 3 rfl) ?_
  refine lv_aload_n hx hb dX0_layOver_15 rfl (lv_at hl 0 rfl) ?_
  refine va_get (D := (dC, dI)) (ci := 0) (v := .ref r) (C := RX0) (T := TX0) (N := 2) hx hb hT inX0 hown hK hP 0 rfl rfl 0 (by decide) (hT _ wd56) (fun _ h9 => h9) rfl dX0_layOver_16 ?_
  refine li_alen hx hb hK hP 1 0 rfl rfl dX0_layOver_19 ?_
  refine lv_iload_n hx hb dX0_layOver_20 rfl (lv_at hl 2 rfl) ?_
  refine li_isub hx hb dX0_layOver_21 ?_
  refine li_icmp_gt (tgt := 36) hx hb (by omega) (by omega) dX0_layOver_22 (by decide) (fun c4 => absurd c4 (by omega)) (fun c4 => ?_)
  refine lv_aload_n hx hb dX0_layOver_25 rfl (lv_at hl 1 rfl) ?_
  refine lv_iconst (v := iI 0) hx hb dX0_layOver_26 rfl ?_
  refine lv_aload_n hx hb dX0_layOver_27 rfl (lv_at hl 0 rfl) ?_
  refine va_get (D := (dC, dI)) (ci := 0) (v := .ref r) (C := RX0) (T := TX0) (N := 2) hx hb hT inX0 hown hK hP 0 rfl rfl 0 (by decide) (hT _ wd56) (fun _ h9 => h9) rfl dX0_layOver_28 ?_
  refine lv_iload_n hx hb dX0_layOver_31 rfl (lv_at hl 3 rfl) ?_
  refine lv_iload_n hx hb dX0_layOver_32 rfl (lv_at hl 2 rfl) ?_
  refine li_copyb hx hb (hml.trans hl.1.symm) hown (hT _ wd307) (hT _ wd245) (hT _ wd244) (hT _ wd37) hK hP hD hS 2 1 1 0 rfl rfl rfl rfl (by omega) (by omega) (by omega) (by omega) (by show 1 ≤ 1; omega) (by show _ ≤ 60; decide +kernel) dX0_layOver_33 (fun H locs hP hD hS => ?_)
  have hP : va_P (dC, dI) vwCl [(b, .inr (0, [.ref r, .int (iI z)])), (r, .inl (cA, w, .inl (fun j => bI ((va_cpy t2 t (0 : Int).toNat (y : Int).toNat (x : Int).toNat) j)))), (r2, .inl (cA2, w2, .inl (fun j => bI (t2 j))))] H := hP
  have hD : va_D A [(b, .inr (0, [.ref r, .int (iI z)])), (r, .inl (cA, w, .inl (fun j => bI ((va_cpy t2 t (0 : Int).toNat (y : Int).toNat (x : Int).toNat) j)))), (r2, .inl (cA2, w2, .inl (fun j => bI (t2 j))))] := hD
  have hP9 := hP.sub (ws' := [(b, .inr (0, [.ref r, .int (iI z)])), (r, .inl (cA, w, .inl (fun j => bI ((va_cpy t2 t (0 : Int).toNat (y : Int).toNat (x : Int).toNat) j)))), (r2, .inl (cA2, w2, .inl (fun j => bI (t2 j))))]) [0, 1, 2] rfl
  have hD9 := hD.sub (ws' := [(b, .inr (0, [.ref r, .int (iI z)])), (r, .inl (cA, w, .inl (fun j => bI ((va_cpy t2 t (0 : Int).toNat (y : Int).toNat (x : Int).toNat) j)))), (r2, .inl (cA2, w2, .inl (fun j => bI (t2 j))))]) [0, 1, 2] (by decide) rfl
  have hK9 := hK.sub (tys' := [(cA, .byte), (cA2, .byte)]) [0, 1] rfl
  exact mv_vret hx hb hr hlocks (fun tS ht hW => ⟨⟨_, (), rfl, ⟨rfl, rfl, rfl⟩, by rw [ht]; exact hP9, va_K.moved hW.alike hK9, hD9⟩, hS.F ht⟩) hS.2.2 dX0_layOver_36
set_option maxHeartbeats 4000000 in
set_option maxRecDepth 100000 in
theorem c_B_layS (l : Launch) (dC : Nat → ClassId) (dI : Nat → Nat → Nat) (sz : Nat) (b : Nat) (r : Nat) (cA : ClassId) (w : Nat) (t : Nat → Int) (z : Int) (x : Int) (y : Int) (hw : w ≤ 4096) (hx8 : 0 ≤ x ∧ x ≤ w) (hy : 0 ≤ y ∧ y + x ≤ w) : mv_Met l yX0_layOver wsX0_layOver ({ frames := 1, cells := 0, slots := 0, locals := 60 }) (va_Pc [.ref b, .ref r, .int (iI x), .int (iI y)] (fun U => U.heap.size = sz ∧ va_P (dC, dI) vwCl [(b, .inr (0, [.ref r, .int (iI z)])), (r, .inl (cA, w, .inl (fun j => bI (t j))))] U.heap ∧ va_K (dC, dI) vwCl [(cA, .byte)] U ∧ va_D (fun _ => True) [(b, .inr (0, [.ref r, .int (iI z)])), (r, .inl (cA, w, .inl (fun j => bI (t j))))])) (mv_Q (fun (v : Option Value) (_ : Unit) (k n : Nat) => v = none ∧ k = 0 ∧ n = 0) (fun (_ : Unit) (tS : State) => va_P (dC, dI) vwCl [(b, .inr (0, [.ref r, .int (iI z)])), (r, .inl (cA, w, .inl (fun j => bI ((va_cpy t t (0 : Int).toNat (y : Int).toNat (x : Int).toNat) j))))] tS.heap ∧ va_K (dC, dI) vwCl [(cA, .byte)] tS ∧ va_D (va_A [(b, .inr (0, [.ref r, .int (iI z)])), (r, .inl (cA, w, .inl (fun j => bI (t j))))] sz) [(b, .inr (0, [.ref r, .int (iI z)])), (r, .inl (cA, w, .inl (fun j => bI ((va_cpy t t (0 : Int).toNat (y : Int).toNat (x : Int).toNat) j))))]) (va_A [(b, .inr (0, [.ref r, .int (iI z)])), (r, .inl (cA, w, .inl (fun j => bI (t j))))] sz)) (va_A [(b, .inr (0, [.ref r, .int (iI z)])), (r, .inl (cA, w, .inl (fun j => bI (t j))))] sz) := by
  refine mv_ofW (cc := cX0_layOver) (maxL := 4) (ret := none) (by decide) rfl ?_
  intro p e s m args below meth c s₁ B hml hv
  obtain ⟨rfl, hsz, hP, hK, hD0⟩ := hv
  have hx := B.exec
  have hb := B.bytes
  have hr := B.returns
  have hT : ∀ w ∈ wT, w.before _ s = true := fun w h => atoms_spec (ws := wsX0_layOver) B.pre w (List.mem_cons_of_mem _ h)
  have hown : s.vm.findClass RX0 = some m.cls := findClass_of_methodNamed B.named
  have hlocks := B.notSynchronized
  subst hsz
  have hD := hD0.self (sz := s.heap.size)
  generalize hAe : va_A [(b, .inr (0, [.ref r, .int (iI z)])), (r, .inl (cA, w, .inl (fun j => bI (t j))))] s.heap.size = A at hD ⊢
  have hA : ∀ q : Nat, s.heap.size ≤ q → A q := fun q h => by rw [← hAe]; exact Or.inr h
  have hS : va_S A s.heap s.heap [] := va_S.rf
  have hP : va_P (dC, dI) vwCl [(b, .inr (0, [.ref r, .int (iI z)])), (r, .inl (cA, w, .inl (fun j => bI (t j))))] s.heap := hP
  have hl := lv_entry ([.ref b, .ref r, .int (iI x), .int (iI y)]) (n := 4) (Nat.le_of_ble_eq_true rfl)
  rw [lg_entry_eq]
  generalize (lg_sl ([.ref b, .ref r, .int (iI x), .int (iI y)]) ++ List.replicate (4 - (lg_sl ([.ref b, .ref r, .int (iI x), .int (iI y)])).length) Slot.unset).toArray = ls at hl ⊢
  have hl : lv_has ls 4 [(0, .ref b), (1, .ref r), (2, .int (iI x)), (3, .int (iI y))] := hl
  refine lv_iload_n hx hb dX0_layOver_0 rfl (lv_at hl 2 rfl) ?_
  refine li_if_lt (tgt := 36) hx hb (by omega) dX0_layOver_1 (by decide) (fun c1 => absurd c1 (by omega)) (fun c1 => ?_)
  refine lv_iload_n hx hb dX0_layOver_4 rfl (lv_at hl 2 rfl) ?_
  refine lv_aload_n hx hb dX0_layOver_5 rfl (lv_at hl 1 rfl) ?_
  refine li_alen hx hb hK hP 1 0 rfl rfl dX0_layOver_6 ?_
  refine li_icmp_gt (tgt := 36) hx hb (by omega) (by omega) dX0_layOver_7 (by decide) (fun c2 => absurd c2 (by omega)) (fun c2 => ?_)
  refine lv_iload_n hx hb dX0_layOver_10 rfl (lv_at hl 3 rfl) ?_
  refine li_if_lt (tgt := 36) hx hb (by omega) dX0_layOver_11 (by decide) (fun c3 => absurd c3 (by omega)) (fun c3 => ?_)
  refine lv_iload_n hx hb dX0_layOver_14 rfl (lv_at hl 3 rfl) ?_
  refine lv_aload_n hx hb dX0_layOver_15 rfl (lv_at hl 0 rfl) ?_
  refine va_get (D := (dC, dI)) (ci := 0) (v := .ref r) (C := RX0) (T := TX0) (N := 2) hx hb hT inX0 hown hK hP 0 rfl rfl 0 (by decide) (hT _ wd56) (fun _ h9 => h9) rfl dX0_layOver_16 ?_
  refine li_alen hx hb hK hP 1 0 rfl rfl dX0_layOver_19 ?_
  refine lv_iload_n hx hb dX0_layOver_20 rfl (lv_at hl 2 rfl) ?_
  refine li_isub hx hb dX0_layOver_21 ?_
  refine li_icmp_gt (tgt := 36) hx hb (by omega) (by omega) dX0_layOver_22 (by decide) (fun c4 => absurd c4 (by omega)) (fun c4 => ?_)
  refine lv_aload_n hx hb dX0_layOver_25 rfl (lv_at hl 1 rfl) ?_
  refine lv_iconst (v := iI 0) hx hb dX0_layOver_26 rfl ?_
  refine lv_aload_n hx hb dX0_layOver_27 rfl (lv_at hl 0 rfl) ?_
  refine va_get (D := (dC, dI)) (ci := 0) (v := .ref r) (C := RX0) (T := TX0) (N := 2) hx hb hT inX0 hown hK hP 0 rfl rfl 0 (by decide) (hT _ wd56) (fun _ h9 => h9) rfl dX0_layOver_28 ?_
  refine lv_iload_n hx hb dX0_layOver_31 rfl (lv_at hl 3 rfl) ?_
  refine lv_iload_n hx hb dX0_layOver_32 rfl (lv_at hl 2 rfl) ?_
  refine li_copyb hx hb (hml.trans hl.1.symm) hown (hT _ wd307) (hT _ wd245) (hT _ wd244) (hT _ wd37) hK hP hD hS 1 1 0 0 rfl rfl rfl rfl (by omega) (by omega) (by omega) (by omega) (by show 1 ≤ 1; omega) (by show _ ≤ 60; decide +kernel) dX0_layOver_33 (fun H locs hP hD hS => ?_)
  have hP : va_P (dC, dI) vwCl [(b, .inr (0, [.ref r, .int (iI z)])), (r, .inl (cA, w, .inl (fun j => bI ((va_cpy t t (0 : Int).toNat (y : Int).toNat (x : Int).toNat) j))))] H := hP
  have hD : va_D A [(b, .inr (0, [.ref r, .int (iI z)])), (r, .inl (cA, w, .inl (fun j => bI ((va_cpy t t (0 : Int).toNat (y : Int).toNat (x : Int).toNat) j))))] := hD
  have hP9 := hP.sub (ws' := [(b, .inr (0, [.ref r, .int (iI z)])), (r, .inl (cA, w, .inl (fun j => bI ((va_cpy t t (0 : Int).toNat (y : Int).toNat (x : Int).toNat) j))))]) [0, 1] rfl
  have hD9 := hD.sub (ws' := [(b, .inr (0, [.ref r, .int (iI z)])), (r, .inl (cA, w, .inl (fun j => bI ((va_cpy t t (0 : Int).toNat (y : Int).toNat (x : Int).toNat) j))))]) [0, 1] (by decide) rfl
  have hK9 := hK.sub (tys' := [(cA, .byte)]) [0] rfl
  exact mv_vret hx hb hr hlocks (fun tS ht hW => ⟨⟨_, (), rfl, ⟨rfl, rfl, rfl⟩, by rw [ht]; exact hP9, va_K.moved hW.alike hK9, hD9⟩, hS.F ht⟩) hS.2.2 dX0_layOver_36
set_option maxHeartbeats 4000000 in
set_option maxRecDepth 100000 in
theorem c_B_put (l : Launch) (dC : Nat → ClassId) (dI : Nat → Nat → Nat) (sz : Nat) (b : Nat) (r : Nat) (cA : ClassId) (w : Nat) (t : Nat → Int) (z : Int) (L : List Int) (b2 : Nat) (r2 : Nat) (cA2 : ClassId) (w2 : Nat) (t2 : Nat → Int) (z2 : Int) (L2 : List Int) (hok : okB w t z L) (hok2 : okB w2 t2 z2 L2) (hl4 : z + z2 ≤ 4096) : mv_Met l yX0_putBehind wsX0_putBehind ({ frames := 3, cells := (phB w), slots := (phB w), locals := 130 }) (va_Pc [.ref b, .ref b2] (fun U => U.heap.size = sz ∧ va_P (dC, dI) vwCl [(b, .inr (0, [.ref r, .int (iI z)])), (r, .inl (cA, w, .inl (fun j => bI (t j)))), (b2, .inr (0, [.ref r2, .int (iI z2)])), (r2, .inl (cA2, w2, .inl (fun j => bI (t2 j))))] U.heap ∧ va_K (dC, dI) vwCl [(cA, .byte), (cA2, .byte)] U ∧ va_D (fun _ => True) [(b, .inr (0, [.ref r, .int (iI z)])), (r, .inl (cA, w, .inl (fun j => bI (t j)))), (b2, .inr (0, [.ref r2, .int (iI z2)])), (r2, .inl (cA2, w2, .inl (fun j => bI (t2 j))))])) (mv_Q (fun (v : Option Value) (u : Nat × ClassId × Nat × (Nat → Int) × Int) (k n : Nat) => match u with | (r', cA', w', t', z') => okB w' t' z' (L ++ L2) ∧ (z' = z + z2 ∧ 64 ≤ w' ∧ w' ≤ 4096 ∧ z' ≤ (w' : Int)) ∧ v = none ∧ n + phB w' ≤ phB w ∧ k ≤ n) (fun (u : Nat × ClassId × Nat × (Nat → Int) × Int) (tS : State) => match u with | (r', cA', w', t', z') => va_P (dC, dI) vwCl [(b, .inr (0, [.ref r', .int (iI z')])), (r', .inl (cA', w', .inl (fun j => bI (t' j)))), (b2, .inr (0, [.ref r2, .int (iI z2)])), (r2, .inl (cA2, w2, .inl (fun j => bI (t2 j))))] tS.heap ∧ va_K (dC, dI) vwCl [(cA', .byte), (cA2, .byte)] tS ∧ va_D (va_A [(b, .inr (0, [.ref r, .int (iI z)])), (r, .inl (cA, w, .inl (fun j => bI (t j)))), (b2, .inr (0, [.ref r2, .int (iI z2)])), (r2, .inl (cA2, w2, .inl (fun j => bI (t2 j))))] sz) [(b, .inr (0, [.ref r', .int (iI z')])), (r', .inl (cA', w', .inl (fun j => bI (t' j)))), (b2, .inr (0, [.ref r2, .int (iI z2)])), (r2, .inl (cA2, w2, .inl (fun j => bI (t2 j))))]) (va_A [(b, .inr (0, [.ref r, .int (iI z)])), (r, .inl (cA, w, .inl (fun j => bI (t j)))), (b2, .inr (0, [.ref r2, .int (iI z2)])), (r2, .inl (cA2, w2, .inl (fun j => bI (t2 j))))] sz)) (va_A [(b, .inr (0, [.ref r, .int (iI z)])), (r, .inl (cA, w, .inl (fun j => bI (t j)))), (b2, .inr (0, [.ref r2, .int (iI z2)])), (r2, .inl (cA2, w2, .inl (fun j => bI (t2 j))))] sz) := by
  refine mv_ofW (cc := cX0_putBehind) (maxL := 3) (ret := none) (by decide) rfl ?_
  intro p e s m args below meth c s₁ B hml hv
  obtain ⟨rfl, hsz, hP, hK, hD0⟩ := hv
  have hx := B.exec
  have hb := B.bytes
  have hr := B.returns
  have hT : ∀ w ∈ wT, w.before _ s = true := fun w h => atoms_spec (ws := wsX0_putBehind) B.pre w (List.mem_cons_of_mem _ h)
  have hown : s.vm.findClass RX0 = some m.cls := findClass_of_methodNamed B.named
  have hlocks := B.notSynchronized
  subst hsz
  have hD := hD0.self (sz := s.heap.size)
  generalize hAe : va_A [(b, .inr (0, [.ref r, .int (iI z)])), (r, .inl (cA, w, .inl (fun j => bI (t j)))), (b2, .inr (0, [.ref r2, .int (iI z2)])), (r2, .inl (cA2, w2, .inl (fun j => bI (t2 j))))] s.heap.size = A at hD ⊢
  have hA : ∀ q : Nat, s.heap.size ≤ q → A q := fun q h => by rw [← hAe]; exact Or.inr h
  have hS : va_S A s.heap s.heap [] := va_S.rf
  have hP : va_P (dC, dI) vwCl [(b, .inr (0, [.ref r, .int (iI z)])), (r, .inl (cA, w, .inl (fun j => bI (t j)))), (b2, .inr (0, [.ref r2, .int (iI z2)])), (r2, .inl (cA2, w2, .inl (fun j => bI (t2 j))))] s.heap := hP
  have hl := lv_entry ([.ref b, .ref b2]) (n := 3) (Nat.le_of_ble_eq_true rfl)
  rw [lg_entry_eq]
  generalize (lg_sl ([.ref b, .ref b2]) ++ List.replicate (3 - (lg_sl ([.ref b, .ref b2])).length) Slot.unset).toArray = ls at hl ⊢
  have hl : lv_has ls 3 [(0, .ref b), (1, .ref b2)] := hl
  obtain ⟨hw1, hw2, hw3, hw4, hw5, hw6⟩ := id hok
  obtain ⟨hv1, hv2, hv3, hv4, hv5, hv6⟩ := id hok2
  refine lv_aload_n hx hb dX0_putBehind_0 rfl (lv_at hl 0 rfl) ?_
  refine va_get (D := (dC, dI)) (ci := 0) (v := .int (iI z)) (C := RX0) (T := TX0) (N := 2) hx hb hT inX0 hown hK hP 0 rfl rfl 1 (by decide) (hT _ wd57) (fun _ h9 => h9) rfl dX0_putBehind_1 ?_
  refine lv_istore_n (lv' := [(2, .int (iI z)), (0, .ref b), (1, .ref b2)]) hx hb dX0_putBehind_4 rfl hl (by decide) rfl (fun ls hl => ?_)
  refine lv_aload_n hx hb dX0_putBehind_5 rfl (lv_at hl 1 rfl) ?_
  refine lv_aload_n hx hb dX0_putBehind_6 rfl (lv_at hl 2 rfl) ?_
  refine va_get (D := (dC, dI)) (ci := 0) (v := .int (iI z2)) (C := RX0) (T := TX0) (N := 2) hx hb hT inX0 hown hK hP 2 rfl rfl 1 (by decide) (hT _ wd57) (fun _ h9 => h9) rfl dX0_putBehind_7 ?_
  have hPc := hP.sub (ws' := [(b, .inr (0, [.ref r, .int (iI z)]))]) [0] rfl
  have hDc := hD.sub (ws' := [(b, .inr (0, [.ref r, .int (iI z)]))]) [0] (by decide) rfl
  have hKc := hK.sub (tys' := []) [] rfl
  have hFc := va_free (wc := [(b, .inr (0, [.ref r, .int (iI z)]))]) hD hS hA [0] rfl
  refine mv_call (mv_runV (As := [.int (iI z2)]) (rest := []) ⟨hx, hb, hml, hown, hT⟩ (c_B_room l dC dI s.heap.size b r z z2 (by omega) (by omega)) (cwV 1 hT (gV wd224 wd142 wd143 wd27 wd144) rfl rfl rfl (by decide +kernel) ⟨show 0 + 1 ≤ 3 from by omega, show 8 + (2 + 11) + 0 ≤ 130 from by omega⟩) ⟨fun a U g mk q => by obtain ⟨q0, q1, qP, qK, qD⟩ := q; exact ⟨q0, q1, qP, va_K.moved (u := U) (U := U.calling g mk a) (Vm.Alike.refl U.vm) qK, qD⟩, va_recv hKc hPc (ci := 0) (q0 := 0) rfl rfl, fun U hU hW => ⟨rfl, by rw [hU], by rw [hU]; exact hPc, va_K.moved hW.alike hKc, hDc.weaken (fun _ _ _ _ => trivial)⟩⟩ rfl rfl hl.1 rfl (lv_room (Nat.le_of_ble_eq_true rfl)) dX0_putBehind_10 ⟨show 0 + 0 ≤ (phB w) from by omega, show 0 + 0 ≤ (phB w) from by omega⟩) hS (fun q _ h => hFc q h) hFc (fun v3 u k1 n2 tS H1 locs ht hvm hw hB hz1 hk1 hS => ?_)
  obtain ⟨q4, rfl⟩ : ∃ y, y = u := ⟨_, rfl⟩
  obtain ⟨hP1, hK1, hD1⟩ := hB
  rw [ht] at hP1
  have hK1 := va_K.moved hvm.symm hK1
  try dsimp only at hw
  obtain ⟨hP, hD⟩ := va_join (wr := [(r, .inl (cA, w, .inl (fun j => bI (t j)))), (b2, .inr (0, [.ref r2, .int (iI z2)])), (r2, .inl (cA2, w2, .inl (fun j => bI (t2 j))))]) (w1 := [(b, .inr (0, [.ref r, .int (iI z)]))]) hP hD [0] [1, 2, 3] rfl rfl (by decide) (by decide) hk1 hFc hP1 hD1
  have hK := (hK.sub (tys' := [(cA, .byte), (cA2, .byte)]) [0, 1] rfl).app hK1
  generalize H1 = H at hP hS ⊢
  have hP : va_P (dC, dI) vwCl [(r, .inl (cA, w, .inl (fun j => bI (t j)))), (b2, .inr (0, [.ref r2, .int (iI z2)])), (r2, .inl (cA2, w2, .inl (fun j => bI (t2 j)))), (b, .inr (0, [.ref r, .int (iI z)]))] H := hP
  have hD : va_D A [(r, .inl (cA, w, .inl (fun j => bI (t j)))), (b2, .inr (0, [.ref r2, .int (iI z2)])), (r2, .inl (cA2, w2, .inl (fun j => bI (t2 j)))), (b, .inr (0, [.ref r, .int (iI z)]))] := hD
  have hK : va_K (dC, dI) vwCl [(cA, .byte), (cA2, .byte)] s := hK
  obtain ⟨rfl, hq4, rfl, rfl⟩ := hw
  refine W.eq (g2 := F0 m 13 ls [.int (iI q4)]) rfl ?_
  refine li_if_eq (tgt := 37) hx hb (by omega) dX0_putBehind_13 (by decide) (fun c5 => absurd c5 (by omega)) (fun c5 => ?_)
  refine lv_aload_n hx hb dX0_putBehind_16 rfl (lv_at hl 1 rfl) ?_
  refine lv_aload_n hx hb dX0_putBehind_17 rfl (lv_at hl 2 rfl) ?_
  refine va_get (D := (dC, dI)) (ci := 0) (v := .int (iI z2)) (C := RX0) (T := TX0) (N := 2) hx hb hT inX0 hown hK hP 1 rfl rfl 1 (by decide) (hT _ wd57) (fun _ h9 => h9) rfl dX0_putBehind_18 ?_
  have hPc := hP.sub (ws' := [(b, .inr (0, [.ref r, .int (iI z)])), (r, .inl (cA, w, .inl (fun j => bI (t j))))]) [3, 0] rfl
  have hDc := hD.sub (ws' := [(b, .inr (0, [.ref r, .int (iI z)])), (r, .inl (cA, w, .inl (fun j => bI (t j))))]) [3, 0] (by decide) rfl
  have hKc := hK.sub (tys' := [(cA, .byte)]) [0] rfl
  have hFc := va_free (wc := [(b, .inr (0, [.ref r, .int (iI z)])), (r, .inl (cA, w, .inl (fun j => bI (t j))))]) hD hS hA [3, 0] rfl
  refine mv_call (mv_runV (As := [.int (iI z2)]) (rest := []) ⟨hx, hb, hml, hown, hT⟩ (c_B_len l dC dI H.size b r cA w t z z2 (by omega) (by omega) (by omega) (hw5)) (cwV 1 hT (gV wd225 wd227 wd1 wd27 wd228) rfl rfl rfl (by decide +kernel) ⟨show 2 + 1 ≤ 3 from by omega, show 8 + (3 + 11) + 100 ≤ 130 from by omega⟩) ⟨fun a U g mk q => by obtain ⟨q0, q1, qP, qK, qD⟩ := q; exact ⟨q0, q1, qP, va_K.moved (u := U) (U := U.calling g mk a) (Vm.Alike.refl U.vm) qK, qD⟩, va_recv hKc hPc (ci := 0) (q0 := 0) rfl rfl, fun U hU hW => ⟨rfl, by rw [hU], by rw [hU]; exact hPc, va_K.moved hW.alike hKc, hDc.weaken (fun _ _ _ _ => trivial)⟩⟩ rfl rfl hl.1 rfl (lv_room (Nat.le_of_ble_eq_true rfl)) dX0_putBehind_21 ⟨show 0 + 0 + (phB w) ≤ (phB w) from by omega, show 0 + 0 + (phB w) ≤ (phB w) from by omega⟩) hS (fun q _ h => hFc q h) hFc (fun v8 u k6 n7 tS H1 locs ht hvm hw hB hz1 hk1 hS => ?_)
  obtain ⟨r9, cA10, w11, t12, z13⟩ := u
  obtain ⟨hP1, hK1, hD1⟩ := hB
  rw [ht] at hP1
  have hK1 := va_K.moved hvm.symm hK1
  try dsimp only at hw
  obtain ⟨hP, hD⟩ := va_join (wr := [(b2, .inr (0, [.ref r2, .int (iI z2)])), (r2, .inl (cA2, w2, .inl (fun j => bI (t2 j))))]) (w1 := [(b, .inr (0, [.ref r9, .int (iI z13)])), (r9, .inl (cA10, w11, .inl (fun j => bI (t12 j))))]) hP hD [3, 0] [1, 2] rfl rfl (by decide) (by decide) hk1 hFc hP1 hD1
  have hK := (hK.sub (tys' := [(cA2, .byte)]) [1] rfl).app hK1
  generalize H1 = H at hP hS ⊢
  have hP : va_P (dC, dI) vwCl [(b2, .inr (0, [.ref r2, .int (iI z2)])), (r2, .inl (cA2, w2, .inl (fun j => bI (t2 j)))), (b, .inr (0, [.ref r9, .int (iI z13)])), (r9, .inl (cA10, w11, .inl (fun j => bI (t12 j))))] H := hP
  have hD : va_D A [(b2, .inr (0, [.ref r2, .int (iI z2)])), (r2, .inl (cA2, w2, .inl (fun j => bI (t2 j)))), (b, .inr (0, [.ref r9, .int (iI z13)])), (r9, .inl (cA10, w11, .inl (fun j => bI (t12 j))))] := hD
  have hK : va_K (dC, dI) vwCl [(cA2, .byte), (cA10, .byte)] s := hK
  obtain ⟨ev8, hAv8, hBv8, hCv8, hDv8, hEv8, rfl, hFv8, hGv8⟩ := hw
  refine W.eq (g2 := F0 m 24 ls []) rfl ?_
  refine lv_aload_n hx hb dX0_putBehind_24 rfl (lv_at hl 1 rfl) ?_
  refine lv_aload_n hx hb dX0_putBehind_25 rfl (lv_at hl 2 rfl) ?_
  refine va_get (D := (dC, dI)) (ci := 0) (v := .ref r2) (C := RX0) (T := TX0) (N := 2) hx hb hT inX0 hown hK hP 0 rfl rfl 0 (by decide) (hT _ wd56) (fun _ h9 => h9) rfl dX0_putBehind_26 ?_
  refine lv_aload_n hx hb dX0_putBehind_29 rfl (lv_at hl 2 rfl) ?_
  refine va_get (D := (dC, dI)) (ci := 0) (v := .int (iI z2)) (C := RX0) (T := TX0) (N := 2) hx hb hT inX0 hown hK hP 0 rfl rfl 1 (by decide) (hT _ wd57) (fun _ h9 => h9) rfl dX0_putBehind_30 ?_
  refine lv_iload_n hx hb dX0_putBehind_33 rfl (lv_at hl 0 rfl) ?_
  have hPc := hP.sub (ws' := [(b, .inr (0, [.ref r9, .int (iI z13)])), (r9, .inl (cA10, w11, .inl (fun j => bI (t12 j)))), (r2, .inl (cA2, w2, .inl (fun j => bI (t2 j))))]) [2, 3, 1] rfl
  have hDc := hD.sub (ws' := [(b, .inr (0, [.ref r9, .int (iI z13)])), (r9, .inl (cA10, w11, .inl (fun j => bI (t12 j)))), (r2, .inl (cA2, w2, .inl (fun j => bI (t2 j))))]) [2, 3, 1] (by decide) rfl
  have hKc := hK.sub (tys' := [(cA10, .byte), (cA2, .byte)]) [1, 0] rfl
  have hFc := va_free (wc := [(b, .inr (0, [.ref r9, .int (iI z13)])), (r9, .inl (cA10, w11, .inl (fun j => bI (t12 j)))), (r2, .inl (cA2, w2, .inl (fun j => bI (t2 j))))]) hD hS hA [2, 3, 1] rfl
  refine mv_call (mv_runV (As := [.ref r2, .int (iI z2), .int (iI z)]) (rest := []) ⟨hx, hb, hml, hown, hT⟩ (c_B_lay l dC dI H.size b r9 cA10 w11 t12 z13 r2 cA2 w2 t2 z2 z (by omega) (by omega) (by omega)) (cwV 3 hT (gV wd303 wd305 wd3 wd27 wd306) rfl rfl rfl (by decide +kernel) ⟨show 1 + 1 ≤ 3 from by omega, show 8 + (4 + 11) + 60 ≤ 130 from by omega⟩) ⟨fun a U g mk q => by obtain ⟨q0, q1, qP, qK, qD⟩ := q; exact ⟨q0, q1, qP, va_K.moved (u := U) (U := U.calling g mk a) (Vm.Alike.refl U.vm) qK, qD⟩, va_recv hKc hPc (ci := 0) (q0 := 0) rfl rfl, fun U hU hW => ⟨rfl, by rw [hU], by rw [hU]; exact hPc, va_K.moved hW.alike hKc, hDc.weaken (fun _ _ _ _ => trivial)⟩⟩ rfl rfl hl.1 rfl (lv_room (Nat.le_of_ble_eq_true rfl)) dX0_putBehind_34 ⟨show 0 + 0 + k6 + 0 ≤ (phB w) from by omega, show 0 + 0 + n7 + 0 ≤ (phB w) from by omega⟩) hS (fun q _ h => hFc q h) hFc (fun v16 u k14 n15 tS H1 locs ht hvm hw hB hz1 hk1 hS => ?_)
  obtain ⟨hP1, hK1, hD1⟩ := hB
  rw [ht] at hP1
  have hK1 := va_K.moved hvm.symm hK1
  try dsimp only at hw
  obtain ⟨hP, hD⟩ := va_join (wr := [(b2, .inr (0, [.ref r2, .int (iI z2)]))]) (w1 := [(b, .inr (0, [.ref r9, .int (iI z13)])), (r9, .inl (cA10, w11, .inl (fun j => bI ((va_cpy t2 t12 (0 : Int).toNat (z : Int).toNat (z2 : Int).toNat) j)))), (r2, .inl (cA2, w2, .inl (fun j => bI (t2 j))))]) hP hD [2, 3, 1] [0] rfl rfl (by decide) (by decide) hk1 hFc hP1 hD1
  have hK := (hK.sub (tys' := []) [] rfl).app hK1
  generalize H1 = H at hP hS ⊢
  have hP : va_P (dC, dI) vwCl [(b2, .inr (0, [.ref r2, .int (iI z2)])), (b, .inr (0, [.ref r9, .int (iI z13)])), (r9, .inl (cA10, w11, .inl (fun j => bI ((va_cpy t2 t12 (0 : Int).toNat (z : Int).toNat (z2 : Int).toNat) j)))), (r2, .inl (cA2, w2, .inl (fun j => bI (t2 j))))] H := hP
  have hD : va_D A [(b2, .inr (0, [.ref r2, .int (iI z2)])), (b, .inr (0, [.ref r9, .int (iI z13)])), (r9, .inl (cA10, w11, .inl (fun j => bI ((va_cpy t2 t12 (0 : Int).toNat (z : Int).toNat (z2 : Int).toNat) j)))), (r2, .inl (cA2, w2, .inl (fun j => bI (t2 j))))] := hD
  have hK : va_K (dC, dI) vwCl [(cA10, .byte), (cA2, .byte)] s := hK
  obtain ⟨rfl, rfl, rfl⟩ := hw
  refine W.eq (g2 := F0 m 37 ls []) rfl ?_
  have hP9 := hP.sub (ws' := [(b, .inr (0, [.ref r9, .int (iI z13)])), (r9, .inl (cA10, w11, .inl (fun j => bI ((va_cpy t2 t12 (0 : Int).toNat (z : Int).toNat (z2 : Int).toNat) j)))), (b2, .inr (0, [.ref r2, .int (iI z2)])), (r2, .inl (cA2, w2, .inl (fun j => bI (t2 j))))]) [1, 2, 0, 3] rfl
  have hD9 := hD.sub (ws' := [(b, .inr (0, [.ref r9, .int (iI z13)])), (r9, .inl (cA10, w11, .inl (fun j => bI ((va_cpy t2 t12 (0 : Int).toNat (z : Int).toNat (z2 : Int).toNat) j)))), (b2, .inr (0, [.ref r2, .int (iI z2)])), (r2, .inl (cA2, w2, .inl (fun j => bI (t2 j))))]) [1, 2, 0, 3] (by decide) rfl
  have hK9 := hK.sub (tys' := [(cA10, .byte), (cA2, .byte)]) [0, 1] rfl
  exact mv_vret hx hb hr hlocks (fun tS ht hW => ⟨⟨_, (r9, cA10, w11, (va_cpy t2 t12 (0 : Int).toNat (z : Int).toNat (z2 : Int).toNat), z13), rfl, ⟨okB_cat hok hok2 (by omega) hDv8 hEv8 (by omega) (by omega) (by omega), by omega, rfl, by omega, by omega⟩, by rw [ht]; exact hP9, va_K.moved hW.alike hK9, hD9⟩, hS.F ht⟩) hS.2.2 dX0_putBehind_37
set_option maxHeartbeats 4000000 in
set_option maxRecDepth 100000 in
theorem c_B_front (l : Launch) (dC : Nat → ClassId) (dI : Nat → Nat → Nat) (sz : Nat) (b : Nat) (r : Nat) (cA : ClassId) (w : Nat) (t : Nat → Int) (z : Int) (L : List Int) (b2 : Nat) (r2 : Nat) (cA2 : ClassId) (w2 : Nat) (t2 : Nat → Int) (z2 : Int) (L2 : List Int) (hok : okB w t z L) (hok2 : okB w2 t2 z2 L2) (hl4 : z + z2 ≤ 4096) : mv_Met l yX0_putInFront wsX0_putInFront ({ frames := 3, cells := (phB w), slots := (phB w), locals := 130 }) (va_Pc [.ref b, .ref b2] (fun U => U.heap.size = sz ∧ va_P (dC, dI) vwCl [(b, .inr (0, [.ref r, .int (iI z)])), (r, .inl (cA, w, .inl (fun j => bI (t j)))), (b2, .inr (0, [.ref r2, .int (iI z2)])), (r2, .inl (cA2, w2, .inl (fun j => bI (t2 j))))] U.heap ∧ va_K (dC, dI) vwCl [(cA, .byte), (cA2, .byte)] U ∧ va_D (fun _ => True) [(b, .inr (0, [.ref r, .int (iI z)])), (r, .inl (cA, w, .inl (fun j => bI (t j)))), (b2, .inr (0, [.ref r2, .int (iI z2)])), (r2, .inl (cA2, w2, .inl (fun j => bI (t2 j))))])) (mv_Q (fun (v : Option Value) (u : Nat × ClassId × Nat × (Nat → Int) × Int) (k n : Nat) => match u with | (r', cA', w', t', z') => okB w' t' z' (L2 ++ L) ∧ (z' = z + z2 ∧ 64 ≤ w' ∧ w' ≤ 4096 ∧ z' ≤ (w' : Int)) ∧ v = none ∧ n + phB w' ≤ phB w ∧ k ≤ n) (fun (u : Nat × ClassId × Nat × (Nat → Int) × Int) (tS : State) => match u with | (r', cA', w', t', z') => va_P (dC, dI) vwCl [(b, .inr (0, [.ref r', .int (iI z')])), (r', .inl (cA', w', .inl (fun j => bI (t' j)))), (b2, .inr (0, [.ref r2, .int (iI z2)])), (r2, .inl (cA2, w2, .inl (fun j => bI (t2 j))))] tS.heap ∧ va_K (dC, dI) vwCl [(cA', .byte), (cA2, .byte)] tS ∧ va_D (va_A [(b, .inr (0, [.ref r, .int (iI z)])), (r, .inl (cA, w, .inl (fun j => bI (t j)))), (b2, .inr (0, [.ref r2, .int (iI z2)])), (r2, .inl (cA2, w2, .inl (fun j => bI (t2 j))))] sz) [(b, .inr (0, [.ref r', .int (iI z')])), (r', .inl (cA', w', .inl (fun j => bI (t' j)))), (b2, .inr (0, [.ref r2, .int (iI z2)])), (r2, .inl (cA2, w2, .inl (fun j => bI (t2 j))))]) (va_A [(b, .inr (0, [.ref r, .int (iI z)])), (r, .inl (cA, w, .inl (fun j => bI (t j)))), (b2, .inr (0, [.ref r2, .int (iI z2)])), (r2, .inl (cA2, w2, .inl (fun j => bI (t2 j))))] sz)) (va_A [(b, .inr (0, [.ref r, .int (iI z)])), (r, .inl (cA, w, .inl (fun j => bI (t j)))), (b2, .inr (0, [.ref r2, .int (iI z2)])), (r2, .inl (cA2, w2, .inl (fun j => bI (t2 j))))] sz) := by
  refine mv_ofW (cc := cX0_putInFront) (maxL := 4) (ret := none) (by decide) rfl ?_
  intro p e s m args below meth c s₁ B hml hv
  obtain ⟨rfl, hsz, hP, hK, hD0⟩ := hv
  have hx := B.exec
  have hb := B.bytes
  have hr := B.returns
  have hT : ∀ w ∈ wT, w.before _ s = true := fun w h => atoms_spec (ws := wsX0_putInFront) B.pre w (List.mem_cons_of_mem _ h)
  have hown : s.vm.findClass RX0 = some m.cls := findClass_of_methodNamed B.named
  have hlocks := B.notSynchronized
  subst hsz
  have hD := hD0.self (sz := s.heap.size)
  generalize hAe : va_A [(b, .inr (0, [.ref r, .int (iI z)])), (r, .inl (cA, w, .inl (fun j => bI (t j)))), (b2, .inr (0, [.ref r2, .int (iI z2)])), (r2, .inl (cA2, w2, .inl (fun j => bI (t2 j))))] s.heap.size = A at hD ⊢
  have hA : ∀ q : Nat, s.heap.size ≤ q → A q := fun q h => by rw [← hAe]; exact Or.inr h
  have hS : va_S A s.heap s.heap [] := va_S.rf
  have hP : va_P (dC, dI) vwCl [(b, .inr (0, [.ref r, .int (iI z)])), (r, .inl (cA, w, .inl (fun j => bI (t j)))), (b2, .inr (0, [.ref r2, .int (iI z2)])), (r2, .inl (cA2, w2, .inl (fun j => bI (t2 j))))] s.heap := hP
  have hl := lv_entry ([.ref b, .ref b2]) (n := 4) (Nat.le_of_ble_eq_true rfl)
  rw [lg_entry_eq]
  generalize (lg_sl ([.ref b, .ref b2]) ++ List.replicate (4 - (lg_sl ([.ref b, .ref b2])).length) Slot.unset).toArray = ls at hl ⊢
  have hl : lv_has ls 4 [(0, .ref b), (1, .ref b2)] := hl
  obtain ⟨hw1, hw2, hw3, hw4, hw5, hw6⟩ := id hok
  obtain ⟨hv1, hv2, hv3, hv4, hv5, hv6⟩ := id hok2
  refine lv_aload_n hx hb dX0_putInFront_0 rfl (lv_at hl 0 rfl) ?_
  refine va_get (D := (dC, dI)) (ci := 0) (v := .int (iI z)) (C := RX0) (T := TX0) (N := 2) hx hb hT inX0 hown hK hP 0 rfl rfl 1 (by decide) (hT _ wd57) (fun _ h9 => h9) rfl dX0_putInFront_1 ?_
  refine lv_istore_n (lv' := [(2, .int (iI z)), (0, .ref b), (1, .ref b2)]) hx hb dX0_putInFront_4 rfl hl (by decide) rfl (fun ls hl => ?_)
  refine lv_aload_n hx hb dX0_putInFront_5 rfl (lv_at hl 2 rfl) ?_
  refine va_get (D := (dC, dI)) (ci := 0) (v := .int (iI z2)) (C := RX0) (T := TX0) (N := 2) hx hb hT inX0 hown hK hP 2 rfl rfl 1 (by decide) (hT _ wd57) (fun _ h9 => h9) rfl dX0_putInFront_6 ?_
  refine lv_istore_n (lv' := [(3, .int (iI z2)), (2, .int (iI z)), (0, .ref b), (1, .ref b2)]) hx hb dX0_putInFront_9 rfl hl (by decide) rfl (fun ls hl => ?_)
  refine lv_aload_n hx hb dX0_putInFront_10 rfl (lv_at hl 2 rfl) ?_
  refine lv_iload_n hx hb dX0_putInFront_11 rfl (lv_at hl 0 rfl) ?_
  have hPc := hP.sub (ws' := [(b, .inr (0, [.ref r, .int (iI z)]))]) [0] rfl
  have hDc := hD.sub (ws' := [(b, .inr (0, [.ref r, .int (iI z)]))]) [0] (by decide) rfl
  have hKc := hK.sub (tys' := []) [] rfl
  have hFc := va_free (wc := [(b, .inr (0, [.ref r, .int (iI z)]))]) hD hS hA [0] rfl
  refine mv_call (mv_runV (As := [.int (iI z2)]) (rest := []) ⟨hx, hb, hml, hown, hT⟩ (c_B_room l dC dI s.heap.size b r z z2 (by omega) (by omega)) (cwV 1 hT (gV wd224 wd142 wd143 wd27 wd144) rfl rfl rfl (by decide +kernel) ⟨show 0 + 1 ≤ 3 from by omega, show 8 + (2 + 11) + 0 ≤ 130 from by omega⟩) ⟨fun a U g mk q => by obtain ⟨q0, q1, qP, qK, qD⟩ := q; exact ⟨q0, q1, qP, va_K.moved (u := U) (U := U.calling g mk a) (Vm.Alike.refl U.vm) qK, qD⟩, va_recv hKc hPc (ci := 0) (q0 := 0) rfl rfl, fun U hU hW => ⟨rfl, by rw [hU], by rw [hU]; exact hPc, va_K.moved hW.alike hKc, hDc.weaken (fun _ _ _ _ => trivial)⟩⟩ rfl rfl hl.1 rfl (lv_room (Nat.le_of_ble_eq_true rfl)) dX0_putInFront_12 ⟨show 0 + 0 ≤ (phB w) from by omega, show 0 + 0 ≤ (phB w) from by omega⟩) hS (fun q _ h => hFc q h) hFc (fun v3 u k1 n2 tS H1 locs ht hvm hw hB hz1 hk1 hS => ?_)
  obtain ⟨q4, rfl⟩ : ∃ y, y = u := ⟨_, rfl⟩
  obtain ⟨hP1, hK1, hD1⟩ := hB
  rw [ht] at hP1
  have hK1 := va_K.moved hvm.symm hK1
  try dsimp only at hw
  obtain ⟨hP, hD⟩ := va_join (wr := [(r, .inl (cA, w, .inl (fun j => bI (t j)))), (b2, .inr (0, [.ref r2, .int (iI z2)])), (r2, .inl (cA2, w2, .inl (fun j => bI (t2 j))))]) (w1 := [(b, .inr (0, [.ref r, .int (iI z)]))]) hP hD [0] [1, 2, 3] rfl rfl (by decide) (by decide) hk1 hFc hP1 hD1
  have hK := (hK.sub (tys' := [(cA, .byte), (cA2, .byte)]) [0, 1] rfl).app hK1
  generalize H1 = H at hP hS ⊢
  have hP : va_P (dC, dI) vwCl [(r, .inl (cA, w, .inl (fun j => bI (t j)))), (b2, .inr (0, [.ref r2, .int (iI z2)])), (r2, .inl (cA2, w2, .inl (fun j => bI (t2 j)))), (b, .inr (0, [.ref r, .int (iI z)]))] H := hP
  have hD : va_D A [(r, .inl (cA, w, .inl (fun j => bI (t j)))), (b2, .inr (0, [.ref r2, .int (iI z2)])), (r2, .inl (cA2, w2, .inl (fun j => bI (t2 j)))), (b, .inr (0, [.ref r, .int (iI z)]))] := hD
  have hK : va_K (dC, dI) vwCl [(cA, .byte), (cA2, .byte)] s := hK
  obtain ⟨rfl, hq4, rfl, rfl⟩ := hw
  refine W.eq (g2 := F0 m 15 ls [.int (iI q4)]) rfl ?_
  refine li_if_eq (tgt := 43) hx hb (by omega) dX0_putInFront_15 (by decide) (fun c5 => absurd c5 (by omega)) (fun c5 => ?_)
  refine lv_aload_n hx hb dX0_putInFront_18 rfl (lv_at hl 2 rfl) ?_
  refine lv_iload_n hx hb dX0_putInFront_19 rfl (lv_at hl 0 rfl) ?_
  have hPc := hP.sub (ws' := [(b, .inr (0, [.ref r, .int (iI z)])), (r, .inl (cA, w, .inl (fun j => bI (t j))))]) [3, 0] rfl
  have hDc := hD.sub (ws' := [(b, .inr (0, [.ref r, .int (iI z)])), (r, .inl (cA, w, .inl (fun j => bI (t j))))]) [3, 0] (by decide) rfl
  have hKc := hK.sub (tys' := [(cA, .byte)]) [0] rfl
  have hFc := va_free (wc := [(b, .inr (0, [.ref r, .int (iI z)])), (r, .inl (cA, w, .inl (fun j => bI (t j))))]) hD hS hA [3, 0] rfl
  refine mv_call (mv_runV (As := [.int (iI z2)]) (rest := []) ⟨hx, hb, hml, hown, hT⟩ (c_B_len l dC dI H.size b r cA w t z z2 (by omega) (by omega) (by omega) (hw5)) (cwV 1 hT (gV wd225 wd227 wd1 wd27 wd228) rfl rfl rfl (by decide +kernel) ⟨show 2 + 1 ≤ 3 from by omega, show 8 + (3 + 11) + 100 ≤ 130 from by omega⟩) ⟨fun a U g mk q => by obtain ⟨q0, q1, qP, qK, qD⟩ := q; exact ⟨q0, q1, qP, va_K.moved (u := U) (U := U.calling g mk a) (Vm.Alike.refl U.vm) qK, qD⟩, va_recv hKc hPc (ci := 0) (q0 := 0) rfl rfl, fun U hU hW => ⟨rfl, by rw [hU], by rw [hU]; exact hPc, va_K.moved hW.alike hKc, hDc.weaken (fun _ _ _ _ => trivial)⟩⟩ rfl rfl hl.1 rfl (lv_room (Nat.le_of_ble_eq_true rfl)) dX0_putInFront_20 ⟨show 0 + 0 + (phB w) ≤ (phB w) from by omega, show 0 + 0 + (phB w) ≤ (phB w) from by omega⟩) hS (fun q _ h => hFc q h) hFc (fun v8 u k6 n7 tS H1 locs ht hvm hw hB hz1 hk1 hS => ?_)
  obtain ⟨r9, cA10, w11, t12, z13⟩ := u
  obtain ⟨hP1, hK1, hD1⟩ := hB
  rw [ht] at hP1
  have hK1 := va_K.moved hvm.symm hK1
  try dsimp only at hw
  obtain ⟨hP, hD⟩ := va_join (wr := [(b2, .inr (0, [.ref r2, .int (iI z2)])), (r2, .inl (cA2, w2, .inl (fun j => bI (t2 j))))]) (w1 := [(b, .inr (0, [.ref r9, .int (iI z13)])), (r9, .inl (cA10, w11, .inl (fun j => bI (t12 j))))]) hP hD [3, 0] [1, 2] rfl rfl (by decide) (by decide) hk1 hFc hP1 hD1
  have hK := (hK.sub (tys' := [(cA2, .byte)]) [1] rfl).app hK1
  generalize H1 = H at hP hS ⊢
  have hP : va_P (dC, dI) vwCl [(b2, .inr (0, [.ref r2, .int (iI z2)])), (r2, .inl (cA2, w2, .inl (fun j => bI (t2 j)))), (b, .inr (0, [.ref r9, .int (iI z13)])), (r9, .inl (cA10, w11, .inl (fun j => bI (t12 j))))] H := hP
  have hD : va_D A [(b2, .inr (0, [.ref r2, .int (iI z2)])), (r2, .inl (cA2, w2, .inl (fun j => bI (t2 j)))), (b, .inr (0, [.ref r9, .int (iI z13)])), (r9, .inl (cA10, w11, .inl (fun j => bI (t12 j))))] := hD
  have hK : va_K (dC, dI) vwCl [(cA2, .byte), (cA10, .byte)] s := hK
  obtain ⟨ev8, hAv8, hBv8, hCv8, hDv8, hEv8, rfl, hFv8, hGv8⟩ := hw
  refine W.eq (g2 := F0 m 23 ls []) rfl ?_
  refine lv_aload_n hx hb dX0_putInFront_23 rfl (lv_at hl 2 rfl) ?_
  refine lv_aload_n hx hb dX0_putInFront_24 rfl (lv_at hl 2 rfl) ?_
  refine va_get (D := (dC, dI)) (ci := 0) (v := .ref r9) (C := RX0) (T := TX0) (N := 2) hx hb hT inX0 hown hK hP 2 rfl rfl 0 (by decide) (hT _ wd56) (fun _ h9 => h9) rfl dX0_putInFront_25 ?_
  refine lv_iload_n hx hb dX0_putInFront_28 rfl (lv_at hl 1 rfl) ?_
  refine lv_iload_n hx hb dX0_putInFront_29 rfl (lv_at hl 0 rfl) ?_
  have hPc := hP.sub (ws' := [(b, .inr (0, [.ref r9, .int (iI z13)])), (r9, .inl (cA10, w11, .inl (fun j => bI (t12 j))))]) [2, 3] rfl
  have hDc := hD.sub (ws' := [(b, .inr (0, [.ref r9, .int (iI z13)])), (r9, .inl (cA10, w11, .inl (fun j => bI (t12 j))))]) [2, 3] (by decide) rfl
  have hKc := hK.sub (tys' := [(cA10, .byte)]) [1] rfl
  have hFc := va_free (wc := [(b, .inr (0, [.ref r9, .int (iI z13)])), (r9, .inl (cA10, w11, .inl (fun j => bI (t12 j))))]) hD hS hA [2, 3] rfl
  refine mv_call (mv_runV (As := [.ref r9, .int (iI z), .int (iI z2)]) (rest := []) ⟨hx, hb, hml, hown, hT⟩ (c_B_layS l dC dI H.size b r9 cA10 w11 t12 z13 z z2 (by omega) (by omega) (by omega)) (cwV 3 hT (gV wd303 wd305 wd3 wd27 wd306) rfl rfl rfl (by decide +kernel) ⟨show 1 + 1 ≤ 3 from by omega, show 8 + (4 + 11) + 60 ≤ 130 from by omega⟩) ⟨fun a U g mk q => by obtain ⟨q0, q1, qP, qK, qD⟩ := q; exact ⟨q0, q1, qP, va_K.moved (u := U) (U := U.calling g mk a) (Vm.Alike.refl U.vm) qK, qD⟩, va_recv hKc hPc (ci := 0) (q0 := 0) rfl rfl, fun U hU hW => ⟨rfl, by rw [hU], by rw [hU]; exact hPc, va_K.moved hW.alike hKc, hDc.weaken (fun _ _ _ _ => trivial)⟩⟩ rfl rfl hl.1 rfl (lv_room (Nat.le_of_ble_eq_true rfl)) dX0_putInFront_30 ⟨show 0 + 0 + k6 + 0 ≤ (phB w) from by omega, show 0 + 0 + n7 + 0 ≤ (phB w) from by omega⟩) hS (fun q _ h => hFc q h) hFc (fun v16 u k14 n15 tS H1 locs ht hvm hw hB hz1 hk1 hS => ?_)
  obtain ⟨hP1, hK1, hD1⟩ := hB
  rw [ht] at hP1
  have hK1 := va_K.moved hvm.symm hK1
  try dsimp only at hw
  obtain ⟨hP, hD⟩ := va_join (wr := [(b2, .inr (0, [.ref r2, .int (iI z2)])), (r2, .inl (cA2, w2, .inl (fun j => bI (t2 j))))]) (w1 := [(b, .inr (0, [.ref r9, .int (iI z13)])), (r9, .inl (cA10, w11, .inl (fun j => bI ((va_cpy t12 t12 (0 : Int).toNat (z2 : Int).toNat (z : Int).toNat) j))))]) hP hD [2, 3] [0, 1] rfl rfl (by decide) (by decide) hk1 hFc hP1 hD1
  have hK := (hK.sub (tys' := [(cA2, .byte)]) [0] rfl).app hK1
  generalize H1 = H at hP hS ⊢
  have hP : va_P (dC, dI) vwCl [(b2, .inr (0, [.ref r2, .int (iI z2)])), (r2, .inl (cA2, w2, .inl (fun j => bI (t2 j)))), (b, .inr (0, [.ref r9, .int (iI z13)])), (r9, .inl (cA10, w11, .inl (fun j => bI ((va_cpy t12 t12 (0 : Int).toNat (z2 : Int).toNat (z : Int).toNat) j))))] H := hP
  have hD : va_D A [(b2, .inr (0, [.ref r2, .int (iI z2)])), (r2, .inl (cA2, w2, .inl (fun j => bI (t2 j)))), (b, .inr (0, [.ref r9, .int (iI z13)])), (r9, .inl (cA10, w11, .inl (fun j => bI ((va_cpy t12 t12 (0 : Int).toNat (z2 : Int).toNat (z : Int).toNat) j))))] := hD
  have hK : va_K (dC, dI) vwCl [(cA2, .byte), (cA10, .byte)] s := hK
  obtain ⟨rfl, rfl, rfl⟩ := hw
  refine W.eq (g2 := F0 m 33 ls []) rfl ?_
  refine lv_aload_n hx hb dX0_putInFront_33 rfl (lv_at hl 2 rfl) ?_
  refine lv_aload_n hx hb dX0_putInFront_34 rfl (lv_at hl 3 rfl) ?_
  refine va_get (D := (dC, dI)) (ci := 0) (v := .ref r2) (C := RX0) (T := TX0) (N := 2) hx hb hT inX0 hown hK hP 0 rfl rfl 0 (by decide) (hT _ wd56) (fun _ h9 => h9) rfl dX0_putInFront_35 ?_
  refine lv_iload_n hx hb dX0_putInFront_38 rfl (lv_at hl 0 rfl) ?_
  refine lv_iconst (v := iI 0) hx hb dX0_putInFront_39 rfl ?_
  have hPc := hP.sub (ws' := [(b, .inr (0, [.ref r9, .int (iI z13)])), (r9, .inl (cA10, w11, .inl (fun j => bI ((va_cpy t12 t12 (0 : Int).toNat (z2 : Int).toNat (z : Int).toNat) j)))), (r2, .inl (cA2, w2, .inl (fun j => bI (t2 j))))]) [2, 3, 1] rfl
  have hDc := hD.sub (ws' := [(b, .inr (0, [.ref r9, .int (iI z13)])), (r9, .inl (cA10, w11, .inl (fun j => bI ((va_cpy t12 t12 (0 : Int).toNat (z2 : Int).toNat (z : Int).toNat) j)))), (r2, .inl (cA2, w2, .inl (fun j => bI (t2 j))))]) [2, 3, 1] (by decide) rfl
  have hKc := hK.sub (tys' := [(cA10, .byte), (cA2, .byte)]) [1, 0] rfl
  have hFc := va_free (wc := [(b, .inr (0, [.ref r9, .int (iI z13)])), (r9, .inl (cA10, w11, .inl (fun j => bI ((va_cpy t12 t12 (0 : Int).toNat (z2 : Int).toNat (z : Int).toNat) j)))), (r2, .inl (cA2, w2, .inl (fun j => bI (t2 j))))]) hD hS hA [2, 3, 1] rfl
  refine mv_call (mv_runV (As := [.ref r2, .int (iI z2), .int (iI 0)]) (rest := []) ⟨hx, hb, hml, hown, hT⟩ (c_B_lay l dC dI H.size b r9 cA10 w11 (va_cpy t12 t12 (0 : Int).toNat (z2 : Int).toNat (z : Int).toNat) z13 r2 cA2 w2 t2 z2 0 (by omega) (by omega) (by omega)) (cwV 3 hT (gV wd303 wd305 wd3 wd27 wd306) rfl rfl rfl (by decide +kernel) ⟨show 1 + 1 ≤ 3 from by omega, show 8 + (4 + 11) + 60 ≤ 130 from by omega⟩) ⟨fun a U g mk q => by obtain ⟨q0, q1, qP, qK, qD⟩ := q; exact ⟨q0, q1, qP, va_K.moved (u := U) (U := U.calling g mk a) (Vm.Alike.refl U.vm) qK, qD⟩, va_recv hKc hPc (ci := 0) (q0 := 0) rfl rfl, fun U hU hW => ⟨rfl, by rw [hU], by rw [hU]; exact hPc, va_K.moved hW.alike hKc, hDc.weaken (fun _ _ _ _ => trivial)⟩⟩ rfl rfl hl.1 rfl (lv_room (Nat.le_of_ble_eq_true rfl)) dX0_putInFront_40 ⟨show 0 + 0 + k6 + 0 + 0 ≤ (phB w) from by omega, show 0 + 0 + n7 + 0 + 0 ≤ (phB w) from by omega⟩) hS (fun q _ h => hFc q h) hFc (fun v19 u k17 n18 tS H1 locs ht hvm hw hB hz1 hk1 hS => ?_)
  obtain ⟨hP1, hK1, hD1⟩ := hB
  rw [ht] at hP1
  have hK1 := va_K.moved hvm.symm hK1
  try dsimp only at hw
  obtain ⟨hP, hD⟩ := va_join (wr := [(b2, .inr (0, [.ref r2, .int (iI z2)]))]) (w1 := [(b, .inr (0, [.ref r9, .int (iI z13)])), (r9, .inl (cA10, w11, .inl (fun j => bI ((va_cpy t2 (va_cpy t12 t12 (0 : Int).toNat (z2 : Int).toNat (z : Int).toNat) (0 : Int).toNat (0 : Int).toNat (z2 : Int).toNat) j)))), (r2, .inl (cA2, w2, .inl (fun j => bI (t2 j))))]) hP hD [2, 3, 1] [0] rfl rfl (by decide) (by decide) hk1 hFc hP1 hD1
  have hK := (hK.sub (tys' := []) [] rfl).app hK1
  generalize H1 = H at hP hS ⊢
  have hP : va_P (dC, dI) vwCl [(b2, .inr (0, [.ref r2, .int (iI z2)])), (b, .inr (0, [.ref r9, .int (iI z13)])), (r9, .inl (cA10, w11, .inl (fun j => bI ((va_cpy t2 (va_cpy t12 t12 (0 : Int).toNat (z2 : Int).toNat (z : Int).toNat) (0 : Int).toNat (0 : Int).toNat (z2 : Int).toNat) j)))), (r2, .inl (cA2, w2, .inl (fun j => bI (t2 j))))] H := hP
  have hD : va_D A [(b2, .inr (0, [.ref r2, .int (iI z2)])), (b, .inr (0, [.ref r9, .int (iI z13)])), (r9, .inl (cA10, w11, .inl (fun j => bI ((va_cpy t2 (va_cpy t12 t12 (0 : Int).toNat (z2 : Int).toNat (z : Int).toNat) (0 : Int).toNat (0 : Int).toNat (z2 : Int).toNat) j)))), (r2, .inl (cA2, w2, .inl (fun j => bI (t2 j))))] := hD
  have hK : va_K (dC, dI) vwCl [(cA10, .byte), (cA2, .byte)] s := hK
  obtain ⟨rfl, rfl, rfl⟩ := hw
  refine W.eq (g2 := F0 m 43 ls []) rfl ?_
  have hP9 := hP.sub (ws' := [(b, .inr (0, [.ref r9, .int (iI z13)])), (r9, .inl (cA10, w11, .inl (fun j => bI ((va_cpy t2 (va_cpy t12 t12 (0 : Int).toNat (z2 : Int).toNat (z : Int).toNat) (0 : Int).toNat (0 : Int).toNat (z2 : Int).toNat) j)))), (b2, .inr (0, [.ref r2, .int (iI z2)])), (r2, .inl (cA2, w2, .inl (fun j => bI (t2 j))))]) [1, 2, 0, 3] rfl
  have hD9 := hD.sub (ws' := [(b, .inr (0, [.ref r9, .int (iI z13)])), (r9, .inl (cA10, w11, .inl (fun j => bI ((va_cpy t2 (va_cpy t12 t12 (0 : Int).toNat (z2 : Int).toNat (z : Int).toNat) (0 : Int).toNat (0 : Int).toNat (z2 : Int).toNat) j)))), (b2, .inr (0, [.ref r2, .int (iI z2)])), (r2, .inl (cA2, w2, .inl (fun j => bI (t2 j))))]) [1, 2, 0, 3] (by decide) rfl
  have hK9 := hK.sub (tys' := [(cA10, .byte), (cA2, .byte)]) [0, 1] rfl
  exact mv_vret hx hb hr hlocks (fun tS ht hW => ⟨⟨_, (r9, cA10, w11, (va_cpy t2 (va_cpy t12 t12 (0 : Int).toNat (z2 : Int).toNat (z : Int).toNat) (0 : Int).toNat (0 : Int).toNat (z2 : Int).toNat), z13), rfl, ⟨okB_front hok hok2 (by omega) hDv8 hEv8 (by omega) (by omega) (by omega), by omega, rfl, by omega, by omega⟩, by rw [ht]; exact hP9, va_K.moved hW.alike hK9, hD9⟩, hS.F ht⟩) hS.2.2 dX0_putInFront_43
set_option maxHeartbeats 4000000 in
set_option maxRecDepth 100000 in
theorem c_B_become (l : Launch) (dC : Nat → ClassId) (dI : Nat → Nat → Nat) (sz : Nat) (b : Nat) (r : Nat) (cA : ClassId) (w : Nat) (t : Nat → Int) (z : Int) (L : List Int) (b2 : Nat) (r2 : Nat) (cA2 : ClassId) (w2 : Nat) (t2 : Nat → Int) (z2 : Int) (L2 : List Int) (hok : okB w t z L) (hok2 : okB w2 t2 z2 L2) : mv_Met l yX0_become wsX0_become ({ frames := 4, cells := (phB w), slots := (phB w), locals := 160 }) (va_Pc [.ref b, .ref b2] (fun U => U.heap.size = sz ∧ va_P (dC, dI) vwCl [(b, .inr (0, [.ref r, .int (iI z)])), (r, .inl (cA, w, .inl (fun j => bI (t j)))), (b2, .inr (0, [.ref r2, .int (iI z2)])), (r2, .inl (cA2, w2, .inl (fun j => bI (t2 j))))] U.heap ∧ va_K (dC, dI) vwCl [(cA, .byte), (cA2, .byte)] U ∧ va_D (fun _ => True) [(b, .inr (0, [.ref r, .int (iI z)])), (r, .inl (cA, w, .inl (fun j => bI (t j)))), (b2, .inr (0, [.ref r2, .int (iI z2)])), (r2, .inl (cA2, w2, .inl (fun j => bI (t2 j))))])) (mv_Q (fun (v : Option Value) (u : Nat × ClassId × Nat × (Nat → Int) × Int) (k n : Nat) => match u with | (r', cA', w', t', z') => okB w' t' z' L2 ∧ (z' = z2 ∧ 64 ≤ w' ∧ w' ≤ 4096 ∧ z' ≤ (w' : Int)) ∧ v = none ∧ n + phB w' ≤ phB w ∧ k ≤ n) (fun (u : Nat × ClassId × Nat × (Nat → Int) × Int) (tS : State) => match u with | (r', cA', w', t', z') => va_P (dC, dI) vwCl [(b, .inr (0, [.ref r', .int (iI z')])), (r', .inl (cA', w', .inl (fun j => bI (t' j)))), (b2, .inr (0, [.ref r2, .int (iI z2)])), (r2, .inl (cA2, w2, .inl (fun j => bI (t2 j))))] tS.heap ∧ va_K (dC, dI) vwCl [(cA', .byte), (cA2, .byte)] tS ∧ va_D (va_A [(b, .inr (0, [.ref r, .int (iI z)])), (r, .inl (cA, w, .inl (fun j => bI (t j)))), (b2, .inr (0, [.ref r2, .int (iI z2)])), (r2, .inl (cA2, w2, .inl (fun j => bI (t2 j))))] sz) [(b, .inr (0, [.ref r', .int (iI z')])), (r', .inl (cA', w', .inl (fun j => bI (t' j)))), (b2, .inr (0, [.ref r2, .int (iI z2)])), (r2, .inl (cA2, w2, .inl (fun j => bI (t2 j))))]) (va_A [(b, .inr (0, [.ref r, .int (iI z)])), (r, .inl (cA, w, .inl (fun j => bI (t j)))), (b2, .inr (0, [.ref r2, .int (iI z2)])), (r2, .inl (cA2, w2, .inl (fun j => bI (t2 j))))] sz)) (va_A [(b, .inr (0, [.ref r, .int (iI z)])), (r, .inl (cA, w, .inl (fun j => bI (t j)))), (b2, .inr (0, [.ref r2, .int (iI z2)])), (r2, .inl (cA2, w2, .inl (fun j => bI (t2 j))))] sz) := by
  refine mv_ofW (cc := cX0_become) (maxL := 2) (ret := none) (by decide) rfl ?_
  intro p e s m args below meth c s₁ B hml hv
  obtain ⟨rfl, hsz, hP, hK, hD0⟩ := hv
  have hx := B.exec
  have hb := B.bytes
  have hr := B.returns
  have hT : ∀ w ∈ wT, w.before _ s = true := fun w h => atoms_spec (ws := wsX0_become) B.pre w (List.mem_cons_of_mem _ h)
  have hown : s.vm.findClass RX0 = some m.cls := findClass_of_methodNamed B.named
  have hlocks := B.notSynchronized
  subst hsz
  have hD := hD0.self (sz := s.heap.size)
  generalize hAe : va_A [(b, .inr (0, [.ref r, .int (iI z)])), (r, .inl (cA, w, .inl (fun j => bI (t j)))), (b2, .inr (0, [.ref r2, .int (iI z2)])), (r2, .inl (cA2, w2, .inl (fun j => bI (t2 j))))] s.heap.size = A at hD ⊢
  have hA : ∀ q : Nat, s.heap.size ≤ q → A q := fun q h => by rw [← hAe]; exact Or.inr h
  have hS : va_S A s.heap s.heap [] := va_S.rf
  have hP : va_P (dC, dI) vwCl [(b, .inr (0, [.ref r, .int (iI z)])), (r, .inl (cA, w, .inl (fun j => bI (t j)))), (b2, .inr (0, [.ref r2, .int (iI z2)])), (r2, .inl (cA2, w2, .inl (fun j => bI (t2 j))))] s.heap := hP
  have hl := lv_entry ([.ref b, .ref b2]) (n := 2) (Nat.le_of_ble_eq_true rfl)
  rw [lg_entry_eq]
  generalize (lg_sl ([.ref b, .ref b2]) ++ List.replicate (2 - (lg_sl ([.ref b, .ref b2])).length) Slot.unset).toArray = ls at hl ⊢
  have hl : lv_has ls 2 [(0, .ref b), (1, .ref b2)] := hl
  obtain ⟨hw1, hw2, hw3, hw4, hw5, hw6⟩ := id hok
  obtain ⟨hv1, hv2, hv3, hv4, hv5, hv6⟩ := id hok2
  refine lv_aload_n hx hb dX0_become_0 rfl (lv_at hl 0 rfl) ?_
  refine lv_iconst (v := iI 0) hx hb dX0_become_1 rfl ?_
  have hPc := hP.sub (ws' := [(b, .inr (0, [.ref r, .int (iI z)]))]) [0] rfl
  have hDc := hD.sub (ws' := [(b, .inr (0, [.ref r, .int (iI z)]))]) [0] (by decide) rfl
  have hKc := hK.sub (tys' := []) [] rfl
  have hFc := va_free (wc := [(b, .inr (0, [.ref r, .int (iI z)]))]) hD hS hA [0] rfl
  refine mv_call (mv_runV (As := [.int (iI 0)]) (rest := []) ⟨hx, hb, hml, hown, hT⟩ (c_B_cut l dC dI s.heap.size b r z 0 (by omega) (by omega)) (cwV 1 hT (gV wd298 wd279 wd280 wd27 wd281) rfl rfl rfl (by decide +kernel) ⟨show 0 + 1 ≤ 4 from by omega, show 8 + (2 + 11) + 0 ≤ 160 from by omega⟩) ⟨fun a U g mk q => by obtain ⟨q0, q1, qP, qK, qD⟩ := q; exact ⟨q0, q1, qP, va_K.moved (u := U) (U := U.calling g mk a) (Vm.Alike.refl U.vm) qK, qD⟩, va_recv hKc hPc (ci := 0) (q0 := 0) rfl rfl, fun U hU hW => ⟨rfl, by rw [hU], by rw [hU]; exact hPc, va_K.moved hW.alike hKc, hDc.weaken (fun _ _ _ _ => trivial)⟩⟩ rfl rfl hl.1 rfl (lv_room (Nat.le_of_ble_eq_true rfl)) dX0_become_2 ⟨show 0 + 0 ≤ (phB w) from by omega, show 0 + 0 ≤ (phB w) from by omega⟩) hS (fun q _ h => hFc q h) hFc (fun v3 u k1 n2 tS H1 locs ht hvm hw hB hz1 hk1 hS => ?_)
  obtain ⟨y4, rfl⟩ : ∃ y, y = u := ⟨_, rfl⟩
  obtain ⟨hP1, hK1, hD1⟩ := hB
  rw [ht] at hP1
  have hK1 := va_K.moved hvm.symm hK1
  try dsimp only at hw
  obtain ⟨hP, hD⟩ := va_join (wr := [(r, .inl (cA, w, .inl (fun j => bI (t j)))), (b2, .inr (0, [.ref r2, .int (iI z2)])), (r2, .inl (cA2, w2, .inl (fun j => bI (t2 j))))]) (w1 := [(b, .inr (0, [.ref r, .int (iI y4)]))]) hP hD [0] [1, 2, 3] rfl rfl (by decide) (by decide) hk1 hFc hP1 hD1
  have hK := (hK.sub (tys' := [(cA, .byte), (cA2, .byte)]) [0, 1] rfl).app hK1
  generalize H1 = H at hP hS ⊢
  have hP : va_P (dC, dI) vwCl [(r, .inl (cA, w, .inl (fun j => bI (t j)))), (b2, .inr (0, [.ref r2, .int (iI z2)])), (r2, .inl (cA2, w2, .inl (fun j => bI (t2 j)))), (b, .inr (0, [.ref r, .int (iI y4)]))] H := hP
  have hD : va_D A [(r, .inl (cA, w, .inl (fun j => bI (t j)))), (b2, .inr (0, [.ref r2, .int (iI z2)])), (r2, .inl (cA2, w2, .inl (fun j => bI (t2 j)))), (b, .inr (0, [.ref r, .int (iI y4)]))] := hD
  have hK : va_K (dC, dI) vwCl [(cA, .byte), (cA2, .byte)] s := hK
  obtain ⟨hy4, rfl, rfl, rfl⟩ := hw
  refine W.eq (g2 := F0 m 5 ls []) rfl ?_
  refine lv_aload_n hx hb dX0_become_5 rfl (lv_at hl 0 rfl) ?_
  refine lv_aload_n hx hb dX0_become_6 rfl (lv_at hl 1 rfl) ?_
  have hok0 : okB w t y4 [] := (show L.take (y4 : Int).toNat = [] by rw [show (y4 : Int).toNat = 0 by omega]; rfl) ▸ okB_cut hok (by omega)
  have hPc := hP.sub (ws' := [(b, .inr (0, [.ref r, .int (iI y4)])), (r, .inl (cA, w, .inl (fun j => bI (t j)))), (b2, .inr (0, [.ref r2, .int (iI z2)])), (r2, .inl (cA2, w2, .inl (fun j => bI (t2 j))))]) [3, 0, 1, 2] rfl
  have hDc := hD.sub (ws' := [(b, .inr (0, [.ref r, .int (iI y4)])), (r, .inl (cA, w, .inl (fun j => bI (t j)))), (b2, .inr (0, [.ref r2, .int (iI z2)])), (r2, .inl (cA2, w2, .inl (fun j => bI (t2 j))))]) [3, 0, 1, 2] (by decide) rfl
  have hKc := hK.sub (tys' := [(cA, .byte), (cA2, .byte)]) [0, 1] rfl
  have hFc := va_free (wc := [(b, .inr (0, [.ref r, .int (iI y4)])), (r, .inl (cA, w, .inl (fun j => bI (t j)))), (b2, .inr (0, [.ref r2, .int (iI z2)])), (r2, .inl (cA2, w2, .inl (fun j => bI (t2 j))))]) hD hS hA [3, 0, 1, 2] rfl
  refine mv_call (mv_runV (As := [.ref b2]) (rest := []) ⟨hx, hb, hml, hown, hT⟩ (c_B_put l dC dI H.size b r cA w t y4 ([] : List Int) b2 r2 cA2 w2 t2 z2 L2 (hok0) (hok2) (by omega)) (cwV 1 hT (gV wd299 wd300 wd301 wd27 wd302) rfl rfl rfl (by decide +kernel) ⟨show 3 + 1 ≤ 4 from by omega, show 8 + (3 + 11) + 130 ≤ 160 from by omega⟩) ⟨fun a U g mk q => by obtain ⟨q0, q1, qP, qK, qD⟩ := q; exact ⟨q0, q1, qP, va_K.moved (u := U) (U := U.calling g mk a) (Vm.Alike.refl U.vm) qK, qD⟩, va_recv hKc hPc (ci := 0) (q0 := 0) rfl rfl, fun U hU hW => ⟨rfl, by rw [hU], by rw [hU]; exact hPc, va_K.moved hW.alike hKc, hDc.weaken (fun _ _ _ _ => trivial)⟩⟩ rfl rfl hl.1 rfl (lv_room (Nat.le_of_ble_eq_true rfl)) dX0_become_7 ⟨show 0 + 0 + (phB w) ≤ (phB w) from by omega, show 0 + 0 + (phB w) ≤ (phB w) from by omega⟩) hS (fun q _ h => hFc q h) hFc (fun v7 u k5 n6 tS H1 locs ht hvm hw hB hz1 hk1 hS => ?_)
  obtain ⟨r8, cA9, w10, t11, z12⟩ := u
  obtain ⟨hP1, hK1, hD1⟩ := hB
  rw [ht] at hP1
  have hK1 := va_K.moved hvm.symm hK1
  try dsimp only at hw
  obtain ⟨hP, hD⟩ := va_join (wr := []) (w1 := [(b, .inr (0, [.ref r8, .int (iI z12)])), (r8, .inl (cA9, w10, .inl (fun j => bI (t11 j)))), (b2, .inr (0, [.ref r2, .int (iI z2)])), (r2, .inl (cA2, w2, .inl (fun j => bI (t2 j))))]) hP hD [3, 0, 1, 2] [] rfl rfl (by decide) (by decide) hk1 hFc hP1 hD1
  have hK := (hK.sub (tys' := []) [] rfl).app hK1
  generalize H1 = H at hP hS ⊢
  have hP : va_P (dC, dI) vwCl [(b, .inr (0, [.ref r8, .int (iI z12)])), (r8, .inl (cA9, w10, .inl (fun j => bI (t11 j)))), (b2, .inr (0, [.ref r2, .int (iI z2)])), (r2, .inl (cA2, w2, .inl (fun j => bI (t2 j))))] H := hP
  have hD : va_D A [(b, .inr (0, [.ref r8, .int (iI z12)])), (r8, .inl (cA9, w10, .inl (fun j => bI (t11 j)))), (b2, .inr (0, [.ref r2, .int (iI z2)])), (r2, .inl (cA2, w2, .inl (fun j => bI (t2 j))))] := hD
  have hK : va_K (dC, dI) vwCl [(cA9, .byte), (cA2, .byte)] s := hK
  obtain ⟨hokv7, hNv7, rfl, hFv7, hGv7⟩ := hw
  refine W.eq (g2 := F0 m 10 ls []) rfl ?_
  have hP9 := hP.sub (ws' := [(b, .inr (0, [.ref r8, .int (iI z12)])), (r8, .inl (cA9, w10, .inl (fun j => bI (t11 j)))), (b2, .inr (0, [.ref r2, .int (iI z2)])), (r2, .inl (cA2, w2, .inl (fun j => bI (t2 j))))]) [0, 1, 2, 3] rfl
  have hD9 := hD.sub (ws' := [(b, .inr (0, [.ref r8, .int (iI z12)])), (r8, .inl (cA9, w10, .inl (fun j => bI (t11 j)))), (b2, .inr (0, [.ref r2, .int (iI z2)])), (r2, .inl (cA2, w2, .inl (fun j => bI (t2 j))))]) [0, 1, 2, 3] (by decide) rfl
  have hK9 := hK.sub (tys' := [(cA9, .byte), (cA2, .byte)]) [0, 1] rfl
  exact mv_vret hx hb hr hlocks (fun tS ht hW => ⟨⟨_, (r8, cA9, w10, t11, z12), rfl, ⟨hokv7, by omega, rfl, by omega, by omega⟩, by rw [ht]; exact hP9, va_K.moved hW.alike hK9, hD9⟩, hS.F ht⟩) hS.2.2 dX0_become_10
end
section
theorem dX1_init_0 : decode cX1_init 0 = .ok (.aload_n 0, 1) := by decide +kernel
theorem dX1_init_1 : decode cX1_init 1 = .ok (.invokespecial 3, 3) := by decide +kernel
theorem dX1_init_4 : decode cX1_init 4 = .ok (.aload_n 0, 1) := by decide +kernel
theorem dX1_init_5 : decode cX1_init 5 = .ok (.iconst 0, 1) := by decide +kernel
theorem dX1_init_6 : decode cX1_init 6 = .ok (.putfield 9, 3) := by decide +kernel
theorem dX1_init_9 : decode cX1_init 9 = .ok (.aload_n 0, 1) := by decide +kernel
theorem dX1_init_10 : decode cX1_init 10 = .ok (.iconst 0, 1) := by decide +kernel
theorem dX1_init_11 : decode cX1_init 11 = .ok (.putfield 15, 3) := by decide +kernel
theorem dX1_init_14 : decode cX1_init 14 = .ok (.aload_n 0, 1) := by decide +kernel
theorem dX1_init_15 : decode cX1_init 15 = .ok (.iconst 0, 1) := by decide +kernel
theorem dX1_init_16 : decode cX1_init 16 = .ok (.putfield 19, 3) := by decide +kernel
theorem dX1_init_19 : decode cX1_init 19 = .ok (.aload_n 0, 1) := by decide +kernel
theorem dX1_init_20 : decode cX1_init 20 = .ok (.iconst 0, 1) := by decide +kernel
theorem dX1_init_21 : decode cX1_init 21 = .ok (.putfield 22, 3) := by decide +kernel
theorem dX1_init_24 : decode cX1_init 24 = .ok (.aload_n 0, 1) := by decide +kernel
theorem dX1_init_25 : decode cX1_init 25 = .ok (.iconst 0, 1) := by decide +kernel
theorem dX1_init_26 : decode cX1_init 26 = .ok (.putfield 25, 3) := by decide +kernel
theorem dX1_init_29 : decode cX1_init 29 = .ok (.aload_n 0, 1) := by decide +kernel
theorem dX1_init_30 : decode cX1_init 30 = .ok (.iconst 0, 1) := by decide +kernel
theorem dX1_init_31 : decode cX1_init 31 = .ok (.putfield 28, 3) := by decide +kernel
theorem dX1_init_34 : decode cX1_init 34 = .ok (.return_, 1) := by decide +kernel
theorem dX1_decode_0 : decode cX1_decode 0 = .ok (.aload_n 0, 1) := by decide +kernel
theorem dX1_decode_1 : decode cX1_decode 1 = .ok (.aload_n 1, 1) := by decide +kernel
theorem dX1_decode_2 : decode cX1_decode 2 = .ok (.iload_n 2, 1) := by decide +kernel
theorem dX1_decode_3 : decode cX1_decode 3 = .ok (.iload_n 3, 1) := by decide +kernel
theorem dX1_decode_4 : decode cX1_decode 4 = .ok (.invokevirtual 31, 3) := by decide +kernel
theorem dX1_decode_7 : decode cX1_decode 7 = .ok (.istore 5, 2) := by decide +kernel
theorem dX1_decode_9 : decode cX1_decode 9 = .ok (.iload 5, 2) := by decide +kernel
theorem dX1_decode_11 : decode cX1_decode 11 = .ok (.iconst (-1), 1) := by decide +kernel
theorem dX1_decode_12 : decode cX1_decode 12 = .ok (.if_icmp .eq 9, 3) := by decide +kernel
theorem dX1_decode_15 : decode cX1_decode 15 = .ok (.iload 5, 2) := by decide +kernel
theorem dX1_decode_17 : decode cX1_decode 17 = .ok (.iload_n 3, 1) := by decide +kernel
theorem dX1_decode_18 : decode cX1_decode 18 = .ok (.if_icmp .lt 5, 3) := by decide +kernel
theorem dX1_decode_21 : decode cX1_decode 21 = .ok (.iconst 0, 1) := by decide +kernel
theorem dX1_decode_22 : decode cX1_decode 22 = .ok (.ireturn, 1) := by decide +kernel
theorem dX1_decode_23 : decode cX1_decode 23 = .ok (.aload_n 1, 1) := by decide +kernel
theorem dX1_decode_24 : decode cX1_decode 24 = .ok (.iload 5, 2) := by decide +kernel
theorem dX1_decode_26 : decode cX1_decode 26 = .ok (.invokevirtual 35, 3) := by decide +kernel
theorem dX1_decode_29 : decode cX1_decode 29 = .ok (.istore 6, 2) := by decide +kernel
theorem dX1_decode_31 : decode cX1_decode 31 = .ok (.aload_n 0, 1) := by decide +kernel
theorem dX1_decode_32 : decode cX1_decode 32 = .ok (.iload 6, 2) := by decide +kernel
theorem dX1_decode_34 : decode cX1_decode 34 = .ok (.sipush 128, 3) := by decide +kernel
theorem dX1_decode_37 : decode cX1_decode 37 = .ok (.if_icmp .ne 7, 3) := by decide +kernel
theorem dX1_decode_40 : decode cX1_decode 40 = .ok (.iconst 1, 1) := by decide +kernel
theorem dX1_decode_41 : decode cX1_decode 41 = .ok (.goto 4, 3) := by decide +kernel
theorem dX1_decode_44 : decode cX1_decode 44 = .ok (.iconst 0, 1) := by decide +kernel
theorem dX1_decode_45 : decode cX1_decode 45 = .ok (.putfield 22, 3) := by decide +kernel
theorem dX1_decode_48 : decode cX1_decode 48 = .ok (.aload_n 0, 1) := by decide +kernel
theorem dX1_decode_49 : decode cX1_decode 49 = .ok (.iconst 0, 1) := by decide +kernel
theorem dX1_decode_50 : decode cX1_decode 50 = .ok (.putfield 25, 3) := by decide +kernel
theorem dX1_decode_53 : decode cX1_decode 53 = .ok (.aload_n 0, 1) := by decide +kernel
theorem dX1_decode_54 : decode cX1_decode 54 = .ok (.iload 5, 2) := by decide +kernel
theorem dX1_decode_56 : decode cX1_decode 56 = .ok (.iconst 1, 1) := by decide +kernel
theorem dX1_decode_57 : decode cX1_decode 57 = .ok (.iadd, 1) := by decide +kernel
theorem dX1_decode_58 : decode cX1_decode 58 = .ok (.putfield 28, 3) := by decide +kernel
theorem dX1_decode_61 : decode cX1_decode 61 = .ok (.aload_n 0, 1) := by decide +kernel
theorem dX1_decode_62 : decode cX1_decode 62 = .ok (.getfield 22, 3) := by decide +kernel
theorem dX1_decode_65 : decode cX1_decode 65 = .ok (.ifCond .eq 21, 3) := by decide +kernel
theorem dX1_decode_68 : decode cX1_decode 68 = .ok (.aload_n 0, 1) := by decide +kernel
theorem dX1_decode_69 : decode cX1_decode 69 = .ok (.getfield 15, 3) := by decide +kernel
theorem dX1_decode_72 : decode cX1_decode 72 = .ok (.ifCond .eq 12, 3) := by decide +kernel
theorem dX1_decode_75 : decode cX1_decode 75 = .ok (.iload 4, 2) := by decide +kernel
theorem dX1_decode_77 : decode cX1_decode 77 = .ok (.ifCond .ne 7, 3) := by decide +kernel
theorem dX1_decode_80 : decode cX1_decode 80 = .ok (.iconst 1, 1) := by decide +kernel
theorem dX1_decode_81 : decode cX1_decode 81 = .ok (.goto 4, 3) := by decide +kernel
theorem dX1_decode_84 : decode cX1_decode 84 = .ok (.iconst 0, 1) := by decide +kernel
theorem dX1_decode_85 : decode cX1_decode 85 = .ok (.ireturn, 1) := by decide +kernel
theorem dX1_decode_86 : decode cX1_decode 86 = .ok (.iload 6, 2) := by decide +kernel
theorem dX1_decode_88 : decode cX1_decode 88 = .ok (.sipush 128, 3) := by decide +kernel
theorem dX1_decode_91 : decode cX1_decode 91 = .ok (.if_icmp .ge 12, 3) := by decide +kernel
theorem dX1_decode_94 : decode cX1_decode 94 = .ok (.aload_n 0, 1) := by decide +kernel
theorem dX1_decode_95 : decode cX1_decode 95 = .ok (.iload 6, 2) := by decide +kernel
theorem dX1_decode_97 : decode cX1_decode 97 = .ok (.putfield 25, 3) := by decide +kernel
theorem dX1_decode_100 : decode cX1_decode 100 = .ok (.goto 22, 3) := by decide +kernel
theorem dX1_decode_103 : decode cX1_decode 103 = .ok (.aload_n 0, 1) := by decide +kernel
theorem dX1_decode_104 : decode cX1_decode 104 = .ok (.aload_n 1, 1) := by decide +kernel
theorem dX1_decode_105 : decode cX1_decode 105 = .ok (.iload 6, 2) := by decide +kernel
theorem dX1_decode_107 : decode cX1_decode 107 = .ok (.sipush 128, 3) := by decide +kernel
theorem dX1_decode_110 : decode cX1_decode 110 = .ok (.isub, 1) := by decide +kernel
theorem dX1_decode_111 : decode cX1_decode 111 = .ok (.iload_n 3, 1) := by decide +kernel
theorem dX1_decode_112 : decode cX1_decode 112 = .ok (.iload 4, 2) := by decide +kernel
theorem dX1_decode_114 : decode cX1_decode 114 = .ok (.invokevirtual 41, 3) := by decide +kernel
theorem dX1_decode_117 : decode cX1_decode 117 = .ok (.ifCond .ne 5, 3) := by decide +kernel
theorem dX1_decode_120 : decode cX1_decode 120 = .ok (.iconst 0, 1) := by decide +kernel
theorem dX1_decode_121 : decode cX1_decode 121 = .ok (.ireturn, 1) := by decide +kernel
theorem dX1_decode_122 : decode cX1_decode 122 = .ok (.aload_n 0, 1) := by decide +kernel
theorem dX1_decode_123 : decode cX1_decode 123 = .ok (.getfield 25, 3) := by decide +kernel
theorem dX1_decode_126 : decode cX1_decode 126 = .ok (.iload_n 3, 1) := by decide +kernel
theorem dX1_decode_127 : decode cX1_decode 127 = .ok (.aload_n 0, 1) := by decide +kernel
theorem dX1_decode_128 : decode cX1_decode 128 = .ok (.getfield 28, 3) := by decide +kernel
theorem dX1_decode_131 : decode cX1_decode 131 = .ok (.isub, 1) := by decide +kernel
theorem dX1_decode_132 : decode cX1_decode 132 = .ok (.if_icmp .gt 7, 3) := by decide +kernel
theorem dX1_decode_135 : decode cX1_decode 135 = .ok (.iconst 1, 1) := by decide +kernel
theorem dX1_decode_136 : decode cX1_decode 136 = .ok (.goto 4, 3) := by decide +kernel
theorem dX1_decode_139 : decode cX1_decode 139 = .ok (.iconst 0, 1) := by decide +kernel
theorem dX1_decode_140 : decode cX1_decode 140 = .ok (.ireturn, 1) := by decide +kernel
theorem dX1_decodeIdentifier_0 : decode cX1_decodeIdentifier 0 = .ok (.iload_n 2, 1) := by decide +kernel
theorem dX1_decodeIdentifier_1 : decode cX1_decodeIdentifier 1 = .ok (.iload_n 3, 1) := by decide +kernel
theorem dX1_decodeIdentifier_2 : decode cX1_decodeIdentifier 2 = .ok (.if_icmp .lt 5, 3) := by decide +kernel
theorem dX1_decodeIdentifier_5 : decode cX1_decodeIdentifier 5 = .ok (.iconst (-1), 1) := by decide +kernel
theorem dX1_decodeIdentifier_6 : decode cX1_decodeIdentifier 6 = .ok (.ireturn, 1) := by decide +kernel
theorem dX1_decodeIdentifier_7 : decode cX1_decodeIdentifier 7 = .ok (.aload_n 1, 1) := by decide +kernel
theorem dX1_decodeIdentifier_8 : decode cX1_decodeIdentifier 8 = .ok (.iload_n 2, 1) := by decide +kernel
theorem dX1_decodeIdentifier_9 : decode cX1_decodeIdentifier 9 = .ok (.invokevirtual 35, 3) := by decide +kernel
theorem dX1_decodeIdentifier_12 : decode cX1_decodeIdentifier 12 = .ok (.istore 4, 2) := by decide +kernel
theorem dX1_decodeIdentifier_14 : decode cX1_decodeIdentifier 14 = .ok (.aload_n 0, 1) := by decide +kernel
theorem dX1_decodeIdentifier_15 : decode cX1_decodeIdentifier 15 = .ok (.iload 4, 2) := by decide +kernel
theorem dX1_decodeIdentifier_17 : decode cX1_decodeIdentifier 17 = .ok (.bipush 6, 2) := by decide +kernel
theorem dX1_decodeIdentifier_19 : decode cX1_decodeIdentifier 19 = .ok (.ishr, 1) := by decide +kernel
theorem dX1_decodeIdentifier_20 : decode cX1_decodeIdentifier 20 = .ok (.putfield 9, 3) := by decide +kernel
theorem dX1_decodeIdentifier_23 : decode cX1_decodeIdentifier 23 = .ok (.aload_n 0, 1) := by decide +kernel
theorem dX1_decodeIdentifier_24 : decode cX1_decodeIdentifier 24 = .ok (.iload 4, 2) := by decide +kernel
theorem dX1_decodeIdentifier_26 : decode cX1_decodeIdentifier 26 = .ok (.bipush 32, 2) := by decide +kernel
theorem dX1_decodeIdentifier_28 : decode cX1_decodeIdentifier 28 = .ok (.iand, 1) := by decide +kernel
theorem dX1_decodeIdentifier_29 : decode cX1_decodeIdentifier 29 = .ok (.ifCond .eq 7, 3) := by decide +kernel
theorem dX1_decodeIdentifier_32 : decode cX1_decodeIdentifier 32 = .ok (.iconst 1, 1) := by decide +kernel
theorem dX1_decodeIdentifier_33 : decode cX1_decodeIdentifier 33 = .ok (.goto 4, 3) := by decide +kernel
theorem dX1_decodeIdentifier_36 : decode cX1_decodeIdentifier 36 = .ok (.iconst 0, 1) := by decide +kernel
theorem dX1_decodeIdentifier_37 : decode cX1_decodeIdentifier 37 = .ok (.putfield 15, 3) := by decide +kernel
theorem dX1_decodeIdentifier_40 : decode cX1_decodeIdentifier 40 = .ok (.aload_n 0, 1) := by decide +kernel
theorem dX1_decodeIdentifier_41 : decode cX1_decodeIdentifier 41 = .ok (.iload 4, 2) := by decide +kernel
theorem dX1_decodeIdentifier_43 : decode cX1_decodeIdentifier 43 = .ok (.bipush 31, 2) := by decide +kernel
theorem dX1_decodeIdentifier_45 : decode cX1_decodeIdentifier 45 = .ok (.iand, 1) := by decide +kernel
theorem dX1_decodeIdentifier_46 : decode cX1_decodeIdentifier 46 = .ok (.putfield 19, 3) := by decide +kernel
theorem dX1_decodeIdentifier_49 : decode cX1_decodeIdentifier 49 = .ok (.aload_n 0, 1) := by decide +kernel
theorem dX1_decodeIdentifier_50 : decode cX1_decodeIdentifier 50 = .ok (.getfield 19, 3) := by decide +kernel
theorem dX1_decodeIdentifier_53 : decode cX1_decodeIdentifier 53 = .ok (.bipush 31, 2) := by decide +kernel
theorem dX1_decodeIdentifier_55 : decode cX1_decodeIdentifier 55 = .ok (.if_icmp .ge 9, 3) := by decide +kernel
theorem dX1_decodeIdentifier_58 : decode cX1_decodeIdentifier 58 = .ok (.iload_n 2, 1) := by decide +kernel
theorem dX1_decodeIdentifier_59 : decode cX1_decodeIdentifier 59 = .ok (.iconst 1, 1) := by decide +kernel
theorem dX1_decodeIdentifier_60 : decode cX1_decodeIdentifier 60 = .ok (.iadd, 1) := by decide +kernel
theorem dX1_decodeIdentifier_61 : decode cX1_decodeIdentifier 61 = .ok (.goto 12, 3) := by decide +kernel
theorem dX1_decodeIdentifier_64 : decode cX1_decodeIdentifier 64 = .ok (.aload_n 0, 1) := by decide +kernel
theorem dX1_decodeIdentifier_65 : decode cX1_decodeIdentifier 65 = .ok (.aload_n 1, 1) := by decide +kernel
theorem dX1_decodeIdentifier_66 : decode cX1_decodeIdentifier 66 = .ok (.iload_n 2, 1) := by decide +kernel
theorem dX1_decodeIdentifier_67 : decode cX1_decodeIdentifier 67 = .ok (.iconst 1, 1) := by decide +kernel
theorem dX1_decodeIdentifier_68 : decode cX1_decodeIdentifier 68 = .ok (.iadd, 1) := by decide +kernel
theorem dX1_decodeIdentifier_69 : decode cX1_decodeIdentifier 69 = .ok (.iload_n 3, 1) := by decide +kernel
theorem dX1_decodeIdentifier_70 : decode cX1_decodeIdentifier 70 = .ok (.invokevirtual 45, 3) := by decide +kernel
theorem dX1_decodeIdentifier_73 : decode cX1_decodeIdentifier 73 = .ok (.ireturn, 1) := by decide +kernel
theorem dX1_decodeLongNumber_0 : decode cX1_decodeLongNumber 0 = .ok (.aload_n 1, 1) := by decide +kernel
theorem dX1_decodeLongNumber_1 : decode cX1_decodeLongNumber 1 = .ok (.iload_n 2, 1) := by decide +kernel
theorem dX1_decodeLongNumber_2 : decode cX1_decodeLongNumber 2 = .ok (.invokevirtual 35, 3) := by decide +kernel
theorem dX1_decodeLongNumber_5 : decode cX1_decodeLongNumber 5 = .ok (.bipush 127, 2) := by decide +kernel
theorem dX1_decodeLongNumber_7 : decode cX1_decodeLongNumber 7 = .ok (.iand, 1) := by decide +kernel
theorem dX1_decodeLongNumber_8 : decode cX1_decodeLongNumber 8 = .ok (.ifCond .ne 5, 3) := by decide +kernel
theorem dX1_decodeLongNumber_11 : decode cX1_decodeLongNumber 11 = .ok (.iconst (-1), 1) := by decide +kernel
theorem dX1_decodeLongNumber_12 : decode cX1_decodeLongNumber 12 = .ok (.ireturn, 1) := by decide +kernel
theorem dX1_decodeLongNumber_13 : decode cX1_decodeLongNumber 13 = .ok (.lconst 0, 1) := by decide +kernel
theorem dX1_decodeLongNumber_14 : decode cX1_decodeLongNumber 14 = .ok (.lstore 4, 2) := by decide +kernel
theorem dX1_decodeLongNumber_16 : decode cX1_decodeLongNumber 16 = .ok (.iload_n 2, 1) := by decide +kernel
theorem dX1_decodeLongNumber_17 : decode cX1_decodeLongNumber 17 = .ok (.istore 6, 2) := by decide +kernel
theorem dX1_decodeLongNumber_19 : decode cX1_decodeLongNumber 19 = .ok (.iload 6, 2) := by decide +kernel
theorem dX1_decodeLongNumber_21 : decode cX1_decodeLongNumber 21 = .ok (.iload_n 3, 1) := by decide +kernel
theorem dX1_decodeLongNumber_22 : decode cX1_decodeLongNumber 22 = .ok (.if_icmp .ge 92, 3) := by decide +kernel
theorem dX1_decodeLongNumber_25 : decode cX1_decodeLongNumber 25 = .ok (.aload_n 1, 1) := by decide +kernel
theorem dX1_decodeLongNumber_26 : decode cX1_decodeLongNumber 26 = .ok (.iload 6, 2) := by decide +kernel
theorem dX1_decodeLongNumber_28 : decode cX1_decodeLongNumber 28 = .ok (.invokevirtual 35, 3) := by decide +kernel
theorem dX1_decodeLongNumber_31 : decode cX1_decodeLongNumber 31 = .ok (.istore 7, 2) := by decide +kernel
theorem dX1_decodeLongNumber_33 : decode cX1_decodeLongNumber 33 = .ok (.lload 4, 2) := by decide +kernel
theorem dX1_decodeLongNumber_35 : decode cX1_decodeLongNumber 35 = .ok (.ldc2_w 48, 3) := by decide +kernel
theorem dX1_decodeLongNumber_38 : decode cX1_decodeLongNumber 38 = .ok (.lcmp, 1) := by decide +kernel
theorem dX1_decodeLongNumber_39 : decode cX1_decodeLongNumber 39 = .ok (.ifCond .le 8, 3) := by decide +kernel
theorem dX1_decodeLongNumber_42 : decode cX1_decodeLongNumber 42 = .ok (.lload 4, 2) := by decide +kernel
theorem dX1_decodeLongNumber_44 : decode cX1_decodeLongNumber 44 = .ok (.goto 16, 3) := by decide +kernel
theorem dX1_decodeLongNumber_47 : decode cX1_decodeLongNumber 47 = .ok (.lload 4, 2) := by decide +kernel
theorem dX1_decodeLongNumber_49 : decode cX1_decodeLongNumber 49 = .ok (.ldc2_w 50, 3) := by decide +kernel
theorem dX1_decodeLongNumber_52 : decode cX1_decodeLongNumber 52 = .ok (.lmul, 1) := by decide +kernel
theorem dX1_decodeLongNumber_53 : decode cX1_decodeLongNumber 53 = .ok (.iload 7, 2) := by decide +kernel
theorem dX1_decodeLongNumber_55 : decode cX1_decodeLongNumber 55 = .ok (.bipush 127, 2) := by decide +kernel
theorem dX1_decodeLongNumber_57 : decode cX1_decodeLongNumber 57 = .ok (.iand, 1) := by decide +kernel
theorem dX1_decodeLongNumber_58 : decode cX1_decodeLongNumber 58 = .ok (.i2l, 1) := by decide +kernel
theorem dX1_decodeLongNumber_59 : decode cX1_decodeLongNumber 59 = .ok (.ladd, 1) := by decide +kernel
theorem dX1_decodeLongNumber_60 : decode cX1_decodeLongNumber 60 = .ok (.lstore 4, 2) := by decide +kernel
theorem dX1_decodeLongNumber_62 : decode cX1_decodeLongNumber 62 = .ok (.iload 7, 2) := by decide +kernel
theorem dX1_decodeLongNumber_64 : decode cX1_decodeLongNumber 64 = .ok (.sipush 128, 3) := by decide +kernel
theorem dX1_decodeLongNumber_67 : decode cX1_decodeLongNumber 67 = .ok (.if_icmp .ge 41, 3) := by decide +kernel
theorem dX1_decodeLongNumber_70 : decode cX1_decodeLongNumber 70 = .ok (.aload_n 0, 1) := by decide +kernel
theorem dX1_decodeLongNumber_71 : decode cX1_decodeLongNumber 71 = .ok (.lload 4, 2) := by decide +kernel
theorem dX1_decodeLongNumber_73 : decode cX1_decodeLongNumber 73 = .ok (.ldc2_w 48, 3) := by decide +kernel
theorem dX1_decodeLongNumber_76 : decode cX1_decodeLongNumber 76 = .ok (.lcmp, 1) := by decide +kernel
theorem dX1_decodeLongNumber_77 : decode cX1_decodeLongNumber 77 = .ok (.ifCond .le 7, 3) := by decide +kernel
theorem dX1_decodeLongNumber_80 : decode cX1_decodeLongNumber 80 = .ok (.iconst (-1), 1) := by decide +kernel
theorem dX1_decodeLongNumber_81 : decode cX1_decodeLongNumber 81 = .ok (.goto 6, 3) := by decide +kernel
theorem dX1_decodeLongNumber_84 : decode cX1_decodeLongNumber 84 = .ok (.lload 4, 2) := by decide +kernel
theorem dX1_decodeLongNumber_86 : decode cX1_decodeLongNumber 86 = .ok (.l2i, 1) := by decide +kernel
theorem dX1_decodeLongNumber_87 : decode cX1_decodeLongNumber 87 = .ok (.putfield 19, 3) := by decide +kernel
theorem dX1_decodeLongNumber_90 : decode cX1_decodeLongNumber 90 = .ok (.lload 4, 2) := by decide +kernel
theorem dX1_decodeLongNumber_92 : decode cX1_decodeLongNumber 92 = .ok (.ldc2_w 52, 3) := by decide +kernel
theorem dX1_decodeLongNumber_95 : decode cX1_decodeLongNumber 95 = .ok (.lcmp, 1) := by decide +kernel
theorem dX1_decodeLongNumber_96 : decode cX1_decodeLongNumber 96 = .ok (.ifCond .ge 7, 3) := by decide +kernel
theorem dX1_decodeLongNumber_99 : decode cX1_decodeLongNumber 99 = .ok (.iconst (-1), 1) := by decide +kernel
theorem dX1_decodeLongNumber_100 : decode cX1_decodeLongNumber 100 = .ok (.goto 7, 3) := by decide +kernel
theorem dX1_decodeLongNumber_103 : decode cX1_decodeLongNumber 103 = .ok (.iload 6, 2) := by decide +kernel
theorem dX1_decodeLongNumber_105 : decode cX1_decodeLongNumber 105 = .ok (.iconst 1, 1) := by decide +kernel
theorem dX1_decodeLongNumber_106 : decode cX1_decodeLongNumber 106 = .ok (.iadd, 1) := by decide +kernel
theorem dX1_decodeLongNumber_107 : decode cX1_decodeLongNumber 107 = .ok (.ireturn, 1) := by decide +kernel
theorem dX1_decodeLongNumber_108 : decode cX1_decodeLongNumber 108 = .ok (.iinc 6 1, 3) := by decide +kernel
theorem dX1_decodeLongNumber_111 : decode cX1_decodeLongNumber 111 = .ok (.goto (-92), 3) := by decide +kernel
theorem dX1_decodeLongNumber_114 : decode cX1_decodeLongNumber 114 = .ok (.iconst (-1), 1) := by decide +kernel
theorem dX1_decodeLongNumber_115 : decode cX1_decodeLongNumber 115 = .ok (.ireturn, 1) := by decide +kernel
theorem dX1_decodeLongLength_0 : decode cX1_decodeLongLength 0 = .ok (.iload_n 2, 1) := by decide +kernel
theorem dX1_decodeLongLength_1 : decode cX1_decodeLongLength 1 = .ok (.iload_n 3, 1) := by decide +kernel
theorem dX1_decodeLongLength_2 : decode cX1_decodeLongLength 2 = .ok (.aload_n 0, 1) := by decide +kernel
theorem dX1_decodeLongLength_3 : decode cX1_decodeLongLength 3 = .ok (.getfield 28, 3) := by decide +kernel
theorem dX1_decodeLongLength_6 : decode cX1_decodeLongLength 6 = .ok (.isub, 1) := by decide +kernel
theorem dX1_decodeLongLength_7 : decode cX1_decodeLongLength 7 = .ok (.if_icmp .le 5, 3) := by decide +kernel
theorem dX1_decodeLongLength_10 : decode cX1_decodeLongLength 10 = .ok (.iconst 0, 1) := by decide +kernel
theorem dX1_decodeLongLength_11 : decode cX1_decodeLongLength 11 = .ok (.ireturn, 1) := by decide +kernel
theorem dX1_decodeLongLength_12 : decode cX1_decodeLongLength 12 = .ok (.aload_n 1, 1) := by decide +kernel
theorem dX1_decodeLongLength_13 : decode cX1_decodeLongLength 13 = .ok (.aload_n 0, 1) := by decide +kernel
theorem dX1_decodeLongLength_14 : decode cX1_decodeLongLength 14 = .ok (.getfield 28, 3) := by decide +kernel
theorem dX1_decodeLongLength_17 : decode cX1_decodeLongLength 17 = .ok (.invokevirtual 35, 3) := by decide +kernel
theorem dX1_decodeLongLength_20 : decode cX1_decodeLongLength 20 = .ok (.ifCond .ne 7, 3) := by decide +kernel
theorem dX1_decodeLongLength_23 : decode cX1_decodeLongLength 23 = .ok (.iconst 1, 1) := by decide +kernel
theorem dX1_decodeLongLength_24 : decode cX1_decodeLongLength 24 = .ok (.goto 4, 3) := by decide +kernel
theorem dX1_decodeLongLength_27 : decode cX1_decodeLongLength 27 = .ok (.iconst 0, 1) := by decide +kernel
theorem dX1_decodeLongLength_28 : decode cX1_decodeLongLength 28 = .ok (.istore 5, 2) := by decide +kernel
theorem dX1_decodeLongLength_30 : decode cX1_decodeLongLength 30 = .ok (.iconst 0, 1) := by decide +kernel
theorem dX1_decodeLongLength_31 : decode cX1_decodeLongLength 31 = .ok (.istore 6, 2) := by decide +kernel
theorem dX1_decodeLongLength_33 : decode cX1_decodeLongLength 33 = .ok (.iload 6, 2) := by decide +kernel
theorem dX1_decodeLongLength_35 : decode cX1_decodeLongLength 35 = .ok (.iload_n 2, 1) := by decide +kernel
theorem dX1_decodeLongLength_36 : decode cX1_decodeLongLength 36 = .ok (.if_icmp .ge 50, 3) := by decide +kernel
theorem dX1_decodeLongLength_39 : decode cX1_decodeLongLength 39 = .ok (.aload_n 0, 1) := by decide +kernel
theorem dX1_decodeLongLength_40 : decode cX1_decodeLongLength 40 = .ok (.aload_n 0, 1) := by decide +kernel
theorem dX1_decodeLongLength_41 : decode cX1_decodeLongLength 41 = .ok (.getfield 25, 3) := by decide +kernel
theorem dX1_decodeLongLength_44 : decode cX1_decodeLongLength 44 = .ok (.sipush 4096, 3) := by decide +kernel
theorem dX1_decodeLongLength_47 : decode cX1_decodeLongLength 47 = .ok (.if_icmp .le 10, 3) := by decide +kernel
theorem dX1_decodeLongLength_50 : decode cX1_decodeLongLength 50 = .ok (.aload_n 0, 1) := by decide +kernel
theorem dX1_decodeLongLength_51 : decode cX1_decodeLongLength 51 = .ok (.getfield 25, 3) := by decide +kernel
theorem dX1_decodeLongLength_54 : decode cX1_decodeLongLength 54 = .ok (.goto 23, 3) := by decide +kernel
theorem dX1_decodeLongLength_57 : decode cX1_decodeLongLength 57 = .ok (.aload_n 0, 1) := by decide +kernel
theorem dX1_decodeLongLength_58 : decode cX1_decodeLongLength 58 = .ok (.getfield 25, 3) := by decide +kernel
theorem dX1_decodeLongLength_61 : decode cX1_decodeLongLength 61 = .ok (.sipush 256, 3) := by decide +kernel
theorem dX1_decodeLongLength_64 : decode cX1_decodeLongLength 64 = .ok (.imul, 1) := by decide +kernel
theorem dX1_decodeLongLength_65 : decode cX1_decodeLongLength 65 = .ok (.aload_n 1, 1) := by decide +kernel
theorem dX1_decodeLongLength_66 : decode cX1_decodeLongLength 66 = .ok (.aload_n 0, 1) := by decide +kernel
theorem dX1_decodeLongLength_67 : decode cX1_decodeLongLength 67 = .ok (.getfield 28, 3) := by decide +kernel
theorem dX1_decodeLongLength_70 : decode cX1_decodeLongLength 70 = .ok (.iload 6, 2) := by decide +kernel
theorem dX1_decodeLongLength_72 : decode cX1_decodeLongLength 72 = .ok (.iadd, 1) := by decide +kernel
theorem dX1_decodeLongLength_73 : decode cX1_decodeLongLength 73 = .ok (.invokevirtual 35, 3) := by decide +kernel
theorem dX1_decodeLongLength_76 : decode cX1_decodeLongLength 76 = .ok (.iadd, 1) := by decide +kernel
theorem dX1_decodeLongLength_77 : decode cX1_decodeLongLength 77 = .ok (.putfield 25, 3) := by decide +kernel
theorem dX1_decodeLongLength_80 : decode cX1_decodeLongLength 80 = .ok (.iinc 6 1, 3) := by decide +kernel
theorem dX1_decodeLongLength_83 : decode cX1_decodeLongLength 83 = .ok (.goto (-50), 3) := by decide +kernel
theorem dX1_decodeLongLength_86 : decode cX1_decodeLongLength 86 = .ok (.aload_n 0, 1) := by decide +kernel
theorem dX1_decodeLongLength_87 : decode cX1_decodeLongLength 87 = .ok (.dup, 1) := by decide +kernel
theorem dX1_decodeLongLength_88 : decode cX1_decodeLongLength 88 = .ok (.getfield 28, 3) := by decide +kernel
theorem dX1_decodeLongLength_91 : decode cX1_decodeLongLength 91 = .ok (.iload_n 2, 1) := by decide +kernel
theorem dX1_decodeLongLength_92 : decode cX1_decodeLongLength 92 = .ok (.iadd, 1) := by decide +kernel
theorem dX1_decodeLongLength_93 : decode cX1_decodeLongLength 93 = .ok (.putfield 28, 3) := by decide +kernel
theorem dX1_decodeLongLength_96 : decode cX1_decodeLongLength 96 = .ok (.iload 4, 2) := by decide +kernel
theorem dX1_decodeLongLength_98 : decode cX1_decodeLongLength 98 = .ok (.ifCond .eq 18, 3) := by decide +kernel
theorem dX1_decodeLongLength_101 : decode cX1_decodeLongLength 101 = .ok (.iload 5, 2) := by decide +kernel
theorem dX1_decodeLongLength_103 : decode cX1_decodeLongLength 103 = .ok (.ifCond .ne 17, 3) := by decide +kernel
theorem dX1_decodeLongLength_106 : decode cX1_decodeLongLength 106 = .ok (.aload_n 0, 1) := by decide +kernel
theorem dX1_decodeLongLength_107 : decode cX1_decodeLongLength 107 = .ok (.getfield 25, 3) := by decide +kernel
theorem dX1_decodeLongLength_110 : decode cX1_decodeLongLength 110 = .ok (.sipush 128, 3) := by decide +kernel
theorem dX1_decodeLongLength_113 : decode cX1_decodeLongLength 113 = .ok (.if_icmp .lt 7, 3) := by decide +kernel
theorem dX1_decodeLongLength_116 : decode cX1_decodeLongLength 116 = .ok (.iconst 1, 1) := by decide +kernel
theorem dX1_decodeLongLength_117 : decode cX1_decodeLongLength 117 = .ok (.goto 4, 3) := by decide +kernel
theorem dX1_decodeLongLength_120 : decode cX1_decodeLongLength 120 = .ok (.iconst 0, 1) := by decide +kernel
theorem dX1_decodeLongLength_121 : decode cX1_decodeLongLength 121 = .ok (.ireturn, 1) := by decide +kernel
end
section
theorem dX2_init_0 : decode cX2_init 0 = .ok (.aload_n 0, 1) := by decide +kernel
theorem dX2_init_1 : decode cX2_init 1 = .ok (.invokespecial 3, 3) := by decide +kernel
theorem dX2_init_4 : decode cX2_init 4 = .ok (.aload_n 0, 1) := by decide +kernel
theorem dX2_init_5 : decode cX2_init 5 = .ok (.new 9, 3) := by decide +kernel
theorem dX2_init_8 : decode cX2_init 8 = .ok (.dup, 1) := by decide +kernel
theorem dX2_init_9 : decode cX2_init 9 = .ok (.invokespecial 11, 3) := by decide +kernel
theorem dX2_init_12 : decode cX2_init 12 = .ok (.putfield 12, 3) := by decide +kernel
theorem dX2_init_15 : decode cX2_init 15 = .ok (.aload_n 0, 1) := by decide +kernel
theorem dX2_init_16 : decode cX2_init 16 = .ok (.new 18, 3) := by decide +kernel
theorem dX2_init_19 : decode cX2_init 19 = .ok (.dup, 1) := by decide +kernel
theorem dX2_init_20 : decode cX2_init 20 = .ok (.invokespecial 20, 3) := by decide +kernel
theorem dX2_init_23 : decode cX2_init 23 = .ok (.putfield 21, 3) := by decide +kernel
theorem dX2_init_26 : decode cX2_init 26 = .ok (.aload_n 0, 1) := by decide +kernel
theorem dX2_init_27 : decode cX2_init 27 = .ok (.bipush 64, 2) := by decide +kernel
theorem dX2_init_29 : decode cX2_init 29 = .ok (.newarray .int, 2) := by decide +kernel
theorem dX2_init_31 : decode cX2_init 31 = .ok (.putfield 25, 3) := by decide +kernel
theorem dX2_init_34 : decode cX2_init 34 = .ok (.aload_n 0, 1) := by decide +kernel
theorem dX2_init_35 : decode cX2_init 35 = .ok (.iconst 0, 1) := by decide +kernel
theorem dX2_init_36 : decode cX2_init 36 = .ok (.putfield 29, 3) := by decide +kernel
theorem dX2_init_39 : decode cX2_init 39 = .ok (.aload_n 0, 1) := by decide +kernel
theorem dX2_init_40 : decode cX2_init 40 = .ok (.iconst 0, 1) := by decide +kernel
theorem dX2_init_41 : decode cX2_init 41 = .ok (.putfield 33, 3) := by decide +kernel
theorem dX2_init_44 : decode cX2_init 44 = .ok (.return_, 1) := by decide +kernel
theorem dX2_layOut_0 : decode cX2_layOut 0 = .ok (.aload_n 0, 1) := by decide +kernel
theorem dX2_layOut_1 : decode cX2_layOut 1 = .ok (.getfield 12, 3) := by decide +kernel
theorem dX2_layOut_4 : decode cX2_layOut 4 = .ok (.aload_n 1, 1) := by decide +kernel
theorem dX2_layOut_5 : decode cX2_layOut 5 = .ok (.invokevirtual 41, 3) := by decide +kernel
theorem dX2_layOut_8 : decode cX2_layOut 8 = .ok (.aload_n 0, 1) := by decide +kernel
theorem dX2_layOut_9 : decode cX2_layOut 9 = .ok (.iload_n 2, 1) := by decide +kernel
theorem dX2_layOut_10 : decode cX2_layOut 10 = .ok (.putfield 33, 3) := by decide +kernel
theorem dX2_layOut_13 : decode cX2_layOut 13 = .ok (.aload_n 0, 1) := by decide +kernel
theorem dX2_layOut_14 : decode cX2_layOut 14 = .ok (.iconst 0, 1) := by decide +kernel
theorem dX2_layOut_15 : decode cX2_layOut 15 = .ok (.putfield 29, 3) := by decide +kernel
theorem dX2_layOut_18 : decode cX2_layOut 18 = .ok (.aload_n 0, 1) := by decide +kernel
theorem dX2_layOut_19 : decode cX2_layOut 19 = .ok (.iconst 0, 1) := by decide +kernel
theorem dX2_layOut_20 : decode cX2_layOut 20 = .ok (.aload_n 0, 1) := by decide +kernel
theorem dX2_layOut_21 : decode cX2_layOut 21 = .ok (.getfield 12, 3) := by decide +kernel
theorem dX2_layOut_24 : decode cX2_layOut 24 = .ok (.invokevirtual 45, 3) := by decide +kernel
theorem dX2_layOut_27 : decode cX2_layOut 27 = .ok (.iconst (-1), 1) := by decide +kernel
theorem dX2_layOut_28 : decode cX2_layOut 28 = .ok (.iconst 1, 1) := by decide +kernel
theorem dX2_layOut_29 : decode cX2_layOut 29 = .ok (.invokevirtual 49, 3) := by decide +kernel
theorem dX2_layOut_32 : decode cX2_layOut 32 = .ok (.istore_n 3, 1) := by decide +kernel
theorem dX2_layOut_33 : decode cX2_layOut 33 = .ok (.iload_n 3, 1) := by decide +kernel
theorem dX2_layOut_34 : decode cX2_layOut 34 = .ok (.iconst (-1), 1) := by decide +kernel
theorem dX2_layOut_35 : decode cX2_layOut 35 = .ok (.if_icmp .eq 18, 3) := by decide +kernel
theorem dX2_layOut_38 : decode cX2_layOut 38 = .ok (.iload_n 3, 1) := by decide +kernel
theorem dX2_layOut_39 : decode cX2_layOut 39 = .ok (.aload_n 0, 1) := by decide +kernel
theorem dX2_layOut_40 : decode cX2_layOut 40 = .ok (.getfield 12, 3) := by decide +kernel
theorem dX2_layOut_43 : decode cX2_layOut 43 = .ok (.invokevirtual 45, 3) := by decide +kernel
theorem dX2_layOut_46 : decode cX2_layOut 46 = .ok (.if_icmp .ne 7, 3) := by decide +kernel
theorem dX2_layOut_49 : decode cX2_layOut 49 = .ok (.iconst 1, 1) := by decide +kernel
theorem dX2_layOut_50 : decode cX2_layOut 50 = .ok (.goto 4, 3) := by decide +kernel
theorem dX2_layOut_53 : decode cX2_layOut 53 = .ok (.iconst 0, 1) := by decide +kernel
theorem dX2_layOut_54 : decode cX2_layOut 54 = .ok (.ireturn, 1) := by decide +kernel
theorem dX2_layOutValue_0 : decode cX2_layOutValue 0 = .ok (.iload 4, 2) := by decide +kernel
theorem dX2_layOutValue_2 : decode cX2_layOutValue 2 = .ok (.bipush 40, 2) := by decide +kernel
theorem dX2_layOutValue_4 : decode cX2_layOutValue 4 = .ok (.if_icmp .gt 33, 3) := by decide +kernel
theorem dX2_layOutValue_7 : decode cX2_layOutValue 7 = .ok (.aload_n 0, 1) := by decide +kernel
theorem dX2_layOutValue_8 : decode cX2_layOutValue 8 = .ok (.getfield 29, 3) := by decide +kernel
theorem dX2_layOutValue_11 : decode cX2_layOutValue 11 = .ok (.sipush 2048, 3) := by decide +kernel
theorem dX2_layOutValue_14 : decode cX2_layOutValue 14 = .ok (.if_icmp .ge 23, 3) := by decide +kernel
theorem dX2_layOutValue_17 : decode cX2_layOutValue 17 = .ok (.aload_n 0, 1) := by decide +kernel
theorem dX2_layOutValue_18 : decode cX2_layOutValue 18 = .ok (.getfield 21, 3) := by decide +kernel
theorem dX2_layOutValue_21 : decode cX2_layOutValue 21 = .ok (.aload_n 0, 1) := by decide +kernel
theorem dX2_layOutValue_22 : decode cX2_layOutValue 22 = .ok (.getfield 12, 3) := by decide +kernel
theorem dX2_layOutValue_25 : decode cX2_layOutValue 25 = .ok (.iload_n 1, 1) := by decide +kernel
theorem dX2_layOutValue_26 : decode cX2_layOutValue 26 = .ok (.iload_n 2, 1) := by decide +kernel
theorem dX2_layOutValue_27 : decode cX2_layOutValue 27 = .ok (.aload_n 0, 1) := by decide +kernel
theorem dX2_layOutValue_28 : decode cX2_layOutValue 28 = .ok (.getfield 33, 3) := by decide +kernel
theorem dX2_layOutValue_31 : decode cX2_layOutValue 31 = .ok (.invokevirtual 82, 3) := by decide +kernel
theorem dX2_layOutValue_34 : decode cX2_layOutValue 34 = .ok (.ifCond .ne 5, 3) := by decide +kernel
theorem dX2_layOutValue_37 : decode cX2_layOutValue 37 = .ok (.iconst (-1), 1) := by decide +kernel
theorem dX2_layOutValue_38 : decode cX2_layOutValue 38 = .ok (.ireturn, 1) := by decide +kernel
theorem dX2_layOutValue_39 : decode cX2_layOutValue 39 = .ok (.aload_n 0, 1) := by decide +kernel
theorem dX2_layOutValue_40 : decode cX2_layOutValue 40 = .ok (.iload_n 1, 1) := by decide +kernel
theorem dX2_layOutValue_41 : decode cX2_layOutValue 41 = .ok (.iload_n 3, 1) := by decide +kernel
theorem dX2_layOutValue_42 : decode cX2_layOutValue 42 = .ok (.invokevirtual 86, 3) := by decide +kernel
theorem dX2_layOutValue_45 : decode cX2_layOutValue 45 = .ok (.istore 5, 2) := by decide +kernel
theorem dX2_layOutValue_47 : decode cX2_layOutValue 47 = .ok (.aload_n 0, 1) := by decide +kernel
theorem dX2_layOutValue_48 : decode cX2_layOutValue 48 = .ok (.getfield 21, 3) := by decide +kernel
theorem dX2_layOutValue_51 : decode cX2_layOutValue 51 = .ok (.getfield 89, 3) := by decide +kernel
theorem dX2_layOutValue_54 : decode cX2_layOutValue 54 = .ok (.istore 6, 2) := by decide +kernel
theorem dX2_layOutValue_56 : decode cX2_layOutValue 56 = .ok (.aload_n 0, 1) := by decide +kernel
theorem dX2_layOutValue_57 : decode cX2_layOutValue 57 = .ok (.getfield 21, 3) := by decide +kernel
theorem dX2_layOutValue_60 : decode cX2_layOutValue 60 = .ok (.getfield 92, 3) := by decide +kernel
theorem dX2_layOutValue_63 : decode cX2_layOutValue 63 = .ok (.ifCond .eq 43, 3) := by decide +kernel
theorem dX2_layOutValue_66 : decode cX2_layOutValue 66 = .ok (.aload_n 0, 1) := by decide +kernel
theorem dX2_layOutValue_67 : decode cX2_layOutValue 67 = .ok (.iload 6, 2) := by decide +kernel
theorem dX2_layOutValue_69 : decode cX2_layOutValue 69 = .ok (.iload_n 2, 1) := by decide +kernel
theorem dX2_layOutValue_70 : decode cX2_layOutValue 70 = .ok (.iload 5, 2) := by decide +kernel
theorem dX2_layOutValue_72 : decode cX2_layOutValue 72 = .ok (.iload 4, 2) := by decide +kernel
theorem dX2_layOutValue_74 : decode cX2_layOutValue 74 = .ok (.iconst 1, 1) := by decide +kernel
theorem dX2_layOutValue_75 : decode cX2_layOutValue 75 = .ok (.iadd, 1) := by decide +kernel
theorem dX2_layOutValue_76 : decode cX2_layOutValue 76 = .ok (.invokevirtual 95, 3) := by decide +kernel
theorem dX2_layOutValue_79 : decode cX2_layOutValue 79 = .ok (.istore 7, 2) := by decide +kernel
theorem dX2_layOutValue_81 : decode cX2_layOutValue 81 = .ok (.iload 7, 2) := by decide +kernel
theorem dX2_layOutValue_83 : decode cX2_layOutValue 83 = .ok (.iconst (-1), 1) := by decide +kernel
theorem dX2_layOutValue_84 : decode cX2_layOutValue 84 = .ok (.if_icmp .ne 5, 3) := by decide +kernel
theorem dX2_layOutValue_87 : decode cX2_layOutValue 87 = .ok (.iconst (-1), 1) := by decide +kernel
theorem dX2_layOutValue_88 : decode cX2_layOutValue 88 = .ok (.ireturn, 1) := by decide +kernel
theorem dX2_layOutValue_89 : decode cX2_layOutValue 89 = .ok (.aload_n 0, 1) := by decide +kernel
theorem dX2_layOutValue_90 : decode cX2_layOutValue 90 = .ok (.iload 5, 2) := by decide +kernel
theorem dX2_layOutValue_92 : decode cX2_layOutValue 92 = .ok (.iconst 5, 1) := by decide +kernel
theorem dX2_layOutValue_93 : decode cX2_layOutValue 93 = .ok (.iload 7, 2) := by decide +kernel
theorem dX2_layOutValue_95 : decode cX2_layOutValue 95 = .ok (.iload 6, 2) := by decide +kernel
theorem dX2_layOutValue_97 : decode cX2_layOutValue 97 = .ok (.isub, 1) := by decide +kernel
theorem dX2_layOutValue_98 : decode cX2_layOutValue 98 = .ok (.invokevirtual 98, 3) := by decide +kernel
theorem dX2_layOutValue_101 : decode cX2_layOutValue 101 = .ok (.iload 7, 2) := by decide +kernel
theorem dX2_layOutValue_103 : decode cX2_layOutValue 103 = .ok (.iconst 2, 1) := by decide +kernel
theorem dX2_layOutValue_104 : decode cX2_layOutValue 104 = .ok (.iadd, 1) := by decide +kernel
theorem dX2_layOutValue_105 : decode cX2_layOutValue 105 = .ok (.ireturn, 1) := by decide +kernel
theorem dX2_layOutValue_106 : decode cX2_layOutValue 106 = .ok (.iload 6, 2) := by decide +kernel
theorem dX2_layOutValue_108 : decode cX2_layOutValue 108 = .ok (.aload_n 0, 1) := by decide +kernel
theorem dX2_layOutValue_109 : decode cX2_layOutValue 109 = .ok (.getfield 21, 3) := by decide +kernel
theorem dX2_layOutValue_112 : decode cX2_layOutValue 112 = .ok (.getfield 102, 3) := by decide +kernel
theorem dX2_layOutValue_115 : decode cX2_layOutValue 115 = .ok (.iadd, 1) := by decide +kernel
theorem dX2_layOutValue_116 : decode cX2_layOutValue 116 = .ok (.istore 7, 2) := by decide +kernel
theorem dX2_layOutValue_118 : decode cX2_layOutValue 118 = .ok (.aload_n 0, 1) := by decide +kernel
theorem dX2_layOutValue_119 : decode cX2_layOutValue 119 = .ok (.getfield 21, 3) := by decide +kernel
theorem dX2_layOutValue_122 : decode cX2_layOutValue 122 = .ok (.getfield 104, 3) := by decide +kernel
theorem dX2_layOutValue_125 : decode cX2_layOutValue 125 = .ok (.ifCond .eq 22, 3) := by decide +kernel
theorem dX2_layOutValue_128 : decode cX2_layOutValue 128 = .ok (.aload_n 0, 1) := by decide +kernel
theorem dX2_layOutValue_129 : decode cX2_layOutValue 129 = .ok (.iload 6, 2) := by decide +kernel
theorem dX2_layOutValue_131 : decode cX2_layOutValue 131 = .ok (.iload 7, 2) := by decide +kernel
theorem dX2_layOutValue_133 : decode cX2_layOutValue 133 = .ok (.iload 5, 2) := by decide +kernel
theorem dX2_layOutValue_135 : decode cX2_layOutValue 135 = .ok (.iload 4, 2) := by decide +kernel
theorem dX2_layOutValue_137 : decode cX2_layOutValue 137 = .ok (.iconst 1, 1) := by decide +kernel
theorem dX2_layOutValue_138 : decode cX2_layOutValue 138 = .ok (.iadd, 1) := by decide +kernel
theorem dX2_layOutValue_139 : decode cX2_layOutValue 139 = .ok (.invokevirtual 107, 3) := by decide +kernel
theorem dX2_layOutValue_142 : decode cX2_layOutValue 142 = .ok (.ifCond .ne 5, 3) := by decide +kernel
theorem dX2_layOutValue_145 : decode cX2_layOutValue 145 = .ok (.iconst (-1), 1) := by decide +kernel
theorem dX2_layOutValue_146 : decode cX2_layOutValue 146 = .ok (.ireturn, 1) := by decide +kernel
theorem dX2_layOutValue_147 : decode cX2_layOutValue 147 = .ok (.iload 7, 2) := by decide +kernel
theorem dX2_layOutValue_149 : decode cX2_layOutValue 149 = .ok (.ireturn, 1) := by decide +kernel
theorem dX2_enter_0 : decode cX2_enter 0 = .ok (.aload_n 0, 1) := by decide +kernel
theorem dX2_enter_1 : decode cX2_enter 1 = .ok (.getfield 29, 3) := by decide +kernel
theorem dX2_enter_4 : decode cX2_enter 4 = .ok (.istore_n 3, 1) := by decide +kernel
theorem dX2_enter_5 : decode cX2_enter 5 = .ok (.iload_n 3, 1) := by decide +kernel
theorem dX2_enter_6 : decode cX2_enter 6 = .ok (.iconst 1, 1) := by decide +kernel
theorem dX2_enter_7 : decode cX2_enter 7 = .ok (.iadd, 1) := by decide +kernel
theorem dX2_enter_8 : decode cX2_enter 8 = .ok (.bipush 8, 2) := by decide +kernel
theorem dX2_enter_10 : decode cX2_enter 10 = .ok (.imul, 1) := by decide +kernel
theorem dX2_enter_11 : decode cX2_enter 11 = .ok (.aload_n 0, 1) := by decide +kernel
theorem dX2_enter_12 : decode cX2_enter 12 = .ok (.getfield 25, 3) := by decide +kernel
theorem dX2_enter_15 : decode cX2_enter 15 = .ok (.arraylength, 1) := by decide +kernel
theorem dX2_enter_16 : decode cX2_enter 16 = .ok (.if_icmp .le 27, 3) := by decide +kernel
theorem dX2_enter_19 : decode cX2_enter 19 = .ok (.aload_n 0, 1) := by decide +kernel
theorem dX2_enter_20 : decode cX2_enter 20 = .ok (.aload_n 0, 1) := by decide +kernel
theorem dX2_enter_21 : decode cX2_enter 21 = .ok (.getfield 25, 3) := by decide +kernel
theorem dX2_enter_24 : decode cX2_enter 24 = .ok (.sipush 16384, 3) := by decide +kernel
theorem dX2_enter_27 : decode cX2_enter 27 = .ok (.iconst 2, 1) := by decide +kernel
theorem dX2_enter_28 : decode cX2_enter 28 = .ok (.aload_n 0, 1) := by decide +kernel
theorem dX2_enter_29 : decode cX2_enter 29 = .ok (.getfield 25, 3) := by decide +kernel
theorem dX2_enter_32 : decode cX2_enter 32 = .ok (.arraylength, 1) := by decide +kernel
theorem dX2_enter_33 : decode cX2_enter 33 = .ok (.imul, 1) := by decide +kernel
theorem dX2_enter_34 : decode cX2_enter 34 = .ok (.invokestatic 61, 3) := by decide +kernel
theorem dX2_enter_37 : decode cX2_enter 37 = .ok (.invokestatic 111, 3) := by decide +kernel
theorem dX2_enter_40 : decode cX2_enter 40 = .ok (.putfield 25, 3) := by decide +kernel
theorem dX2_enter_43 : decode cX2_enter 43 = .ok (.aload_n 0, 1) := by decide +kernel
theorem dX2_enter_44 : decode cX2_enter 44 = .ok (.iload_n 3, 1) := by decide +kernel
theorem dX2_enter_45 : decode cX2_enter 45 = .ok (.iconst 1, 1) := by decide +kernel
theorem dX2_enter_46 : decode cX2_enter 46 = .ok (.iadd, 1) := by decide +kernel
theorem dX2_enter_47 : decode cX2_enter 47 = .ok (.putfield 29, 3) := by decide +kernel
theorem dX2_enter_50 : decode cX2_enter 50 = .ok (.aload_n 0, 1) := by decide +kernel
theorem dX2_enter_51 : decode cX2_enter 51 = .ok (.iload_n 3, 1) := by decide +kernel
theorem dX2_enter_52 : decode cX2_enter 52 = .ok (.iconst 0, 1) := by decide +kernel
theorem dX2_enter_53 : decode cX2_enter 53 = .ok (.aload_n 0, 1) := by decide +kernel
theorem dX2_enter_54 : decode cX2_enter 54 = .ok (.getfield 21, 3) := by decide +kernel
theorem dX2_enter_57 : decode cX2_enter 57 = .ok (.getfield 117, 3) := by decide +kernel
theorem dX2_enter_60 : decode cX2_enter 60 = .ok (.invokevirtual 98, 3) := by decide +kernel
theorem dX2_enter_63 : decode cX2_enter 63 = .ok (.aload_n 0, 1) := by decide +kernel
theorem dX2_enter_64 : decode cX2_enter 64 = .ok (.iload_n 3, 1) := by decide +kernel
theorem dX2_enter_65 : decode cX2_enter 65 = .ok (.iconst 1, 1) := by decide +kernel
theorem dX2_enter_66 : decode cX2_enter 66 = .ok (.aload_n 0, 1) := by decide +kernel
theorem dX2_enter_67 : decode cX2_enter 67 = .ok (.getfield 21, 3) := by decide +kernel
theorem dX2_enter_70 : decode cX2_enter 70 = .ok (.getfield 120, 3) := by decide +kernel
theorem dX2_enter_73 : decode cX2_enter 73 = .ok (.invokevirtual 98, 3) := by decide +kernel
theorem dX2_enter_76 : decode cX2_enter 76 = .ok (.aload_n 0, 1) := by decide +kernel
theorem dX2_enter_77 : decode cX2_enter 77 = .ok (.iload_n 3, 1) := by decide +kernel
theorem dX2_enter_78 : decode cX2_enter 78 = .ok (.iconst 2, 1) := by decide +kernel
theorem dX2_enter_79 : decode cX2_enter 79 = .ok (.aload_n 0, 1) := by decide +kernel
theorem dX2_enter_80 : decode cX2_enter 80 = .ok (.getfield 21, 3) := by decide +kernel
theorem dX2_enter_83 : decode cX2_enter 83 = .ok (.getfield 104, 3) := by decide +kernel
theorem dX2_enter_86 : decode cX2_enter 86 = .ok (.ifCond .eq 7, 3) := by decide +kernel
theorem dX2_enter_89 : decode cX2_enter 89 = .ok (.iconst 1, 1) := by decide +kernel
theorem dX2_enter_90 : decode cX2_enter 90 = .ok (.goto 4, 3) := by decide +kernel
theorem dX2_enter_93 : decode cX2_enter 93 = .ok (.iconst 0, 1) := by decide +kernel
theorem dX2_enter_94 : decode cX2_enter 94 = .ok (.invokevirtual 98, 3) := by decide +kernel
theorem dX2_enter_97 : decode cX2_enter 97 = .ok (.aload_n 0, 1) := by decide +kernel
theorem dX2_enter_98 : decode cX2_enter 98 = .ok (.iload_n 3, 1) := by decide +kernel
theorem dX2_enter_99 : decode cX2_enter 99 = .ok (.iconst 3, 1) := by decide +kernel
theorem dX2_enter_100 : decode cX2_enter 100 = .ok (.iload_n 1, 1) := by decide +kernel
theorem dX2_enter_101 : decode cX2_enter 101 = .ok (.invokevirtual 98, 3) := by decide +kernel
theorem dX2_enter_104 : decode cX2_enter 104 = .ok (.aload_n 0, 1) := by decide +kernel
theorem dX2_enter_105 : decode cX2_enter 105 = .ok (.iload_n 3, 1) := by decide +kernel
theorem dX2_enter_106 : decode cX2_enter 106 = .ok (.iconst 4, 1) := by decide +kernel
theorem dX2_enter_107 : decode cX2_enter 107 = .ok (.aload_n 0, 1) := by decide +kernel
theorem dX2_enter_108 : decode cX2_enter 108 = .ok (.getfield 21, 3) := by decide +kernel
theorem dX2_enter_111 : decode cX2_enter 111 = .ok (.getfield 89, 3) := by decide +kernel
theorem dX2_enter_114 : decode cX2_enter 114 = .ok (.invokevirtual 98, 3) := by decide +kernel
theorem dX2_enter_117 : decode cX2_enter 117 = .ok (.aload_n 0, 1) := by decide +kernel
theorem dX2_enter_118 : decode cX2_enter 118 = .ok (.iload_n 3, 1) := by decide +kernel
theorem dX2_enter_119 : decode cX2_enter 119 = .ok (.iconst 5, 1) := by decide +kernel
theorem dX2_enter_120 : decode cX2_enter 120 = .ok (.aload_n 0, 1) := by decide +kernel
theorem dX2_enter_121 : decode cX2_enter 121 = .ok (.getfield 21, 3) := by decide +kernel
theorem dX2_enter_124 : decode cX2_enter 124 = .ok (.getfield 102, 3) := by decide +kernel
theorem dX2_enter_127 : decode cX2_enter 127 = .ok (.invokevirtual 98, 3) := by decide +kernel
theorem dX2_enter_130 : decode cX2_enter 130 = .ok (.aload_n 0, 1) := by decide +kernel
theorem dX2_enter_131 : decode cX2_enter 131 = .ok (.iload_n 3, 1) := by decide +kernel
theorem dX2_enter_132 : decode cX2_enter 132 = .ok (.bipush 6, 2) := by decide +kernel
theorem dX2_enter_134 : decode cX2_enter 134 = .ok (.iload_n 2, 1) := by decide +kernel
theorem dX2_enter_135 : decode cX2_enter 135 = .ok (.invokevirtual 98, 3) := by decide +kernel
theorem dX2_enter_138 : decode cX2_enter 138 = .ok (.aload_n 0, 1) := by decide +kernel
theorem dX2_enter_139 : decode cX2_enter 139 = .ok (.iload_n 3, 1) := by decide +kernel
theorem dX2_enter_140 : decode cX2_enter 140 = .ok (.bipush 7, 2) := by decide +kernel
theorem dX2_enter_142 : decode cX2_enter 142 = .ok (.iconst 0, 1) := by decide +kernel
theorem dX2_enter_143 : decode cX2_enter 143 = .ok (.invokevirtual 98, 3) := by decide +kernel
theorem dX2_enter_146 : decode cX2_enter 146 = .ok (.aload_n 0, 1) := by decide +kernel
theorem dX2_enter_147 : decode cX2_enter 147 = .ok (.iload_n 2, 1) := by decide +kernel
theorem dX2_enter_148 : decode cX2_enter 148 = .ok (.bipush 7, 2) := by decide +kernel
theorem dX2_enter_150 : decode cX2_enter 150 = .ok (.aload_n 0, 1) := by decide +kernel
theorem dX2_enter_151 : decode cX2_enter 151 = .ok (.iload_n 2, 1) := by decide +kernel
theorem dX2_enter_152 : decode cX2_enter 152 = .ok (.bipush 7, 2) := by decide +kernel
theorem dX2_enter_154 : decode cX2_enter 154 = .ok (.invokevirtual 53, 3) := by decide +kernel
theorem dX2_enter_157 : decode cX2_enter 157 = .ok (.iconst 1, 1) := by decide +kernel
theorem dX2_enter_158 : decode cX2_enter 158 = .ok (.iadd, 1) := by decide +kernel
theorem dX2_enter_159 : decode cX2_enter 159 = .ok (.invokevirtual 98, 3) := by decide +kernel
theorem dX2_enter_162 : decode cX2_enter 162 = .ok (.iload_n 3, 1) := by decide +kernel
theorem dX2_enter_163 : decode cX2_enter 163 = .ok (.ireturn, 1) := by decide +kernel
theorem dX2_put_0 : decode cX2_put 0 = .ok (.aload_n 0, 1) := by decide +kernel
theorem dX2_put_1 : decode cX2_put 1 = .ok (.iload_n 1, 1) := by decide +kernel
theorem dX2_put_2 : decode cX2_put 2 = .ok (.iload_n 2, 1) := by decide +kernel
theorem dX2_put_3 : decode cX2_put 3 = .ok (.invokevirtual 37, 3) := by decide +kernel
theorem dX2_put_6 : decode cX2_put 6 = .ok (.istore 4, 2) := by decide +kernel
theorem dX2_put_8 : decode cX2_put 8 = .ok (.iload 4, 2) := by decide +kernel
theorem dX2_put_10 : decode cX2_put 10 = .ok (.ifCond .lt 21, 3) := by decide +kernel
theorem dX2_put_13 : decode cX2_put 13 = .ok (.iload 4, 2) := by decide +kernel
theorem dX2_put_15 : decode cX2_put 15 = .ok (.aload_n 0, 1) := by decide +kernel
theorem dX2_put_16 : decode cX2_put 16 = .ok (.getfield 25, 3) := by decide +kernel
theorem dX2_put_19 : decode cX2_put 19 = .ok (.arraylength, 1) := by decide +kernel
theorem dX2_put_20 : decode cX2_put 20 = .ok (.if_icmp .ge 11, 3) := by decide +kernel
theorem dX2_put_23 : decode cX2_put 23 = .ok (.aload_n 0, 1) := by decide +kernel
theorem dX2_put_24 : decode cX2_put 24 = .ok (.getfield 25, 3) := by decide +kernel
theorem dX2_put_27 : decode cX2_put 27 = .ok (.iload 4, 2) := by decide +kernel
theorem dX2_put_29 : decode cX2_put 29 = .ok (.iload_n 3, 1) := by decide +kernel
theorem dX2_put_30 : decode cX2_put 30 = .ok (.iastore, 1) := by decide +kernel
theorem dX2_put_31 : decode cX2_put 31 = .ok (.return_, 1) := by decide +kernel
theorem dX2_indexOf_0 : decode cX2_indexOf 0 = .ok (.aload_n 0, 1) := by decide +kernel
theorem dX2_indexOf_1 : decode cX2_indexOf 1 = .ok (.iload_n 1, 1) := by decide +kernel
theorem dX2_indexOf_2 : decode cX2_indexOf 2 = .ok (.invokevirtual 78, 3) := by decide +kernel
theorem dX2_indexOf_5 : decode cX2_indexOf 5 = .ok (.ifCond .eq 22, 3) := by decide +kernel
theorem dX2_indexOf_8 : decode cX2_indexOf 8 = .ok (.iload_n 2, 1) := by decide +kernel
theorem dX2_indexOf_9 : decode cX2_indexOf 9 = .ok (.ifCond .lt 18, 3) := by decide +kernel
theorem dX2_indexOf_12 : decode cX2_indexOf 12 = .ok (.iload_n 2, 1) := by decide +kernel
theorem dX2_indexOf_13 : decode cX2_indexOf 13 = .ok (.bipush 8, 2) := by decide +kernel
theorem dX2_indexOf_15 : decode cX2_indexOf 15 = .ok (.if_icmp .ge 12, 3) := by decide +kernel
theorem dX2_indexOf_18 : decode cX2_indexOf 18 = .ok (.iload_n 1, 1) := by decide +kernel
theorem dX2_indexOf_19 : decode cX2_indexOf 19 = .ok (.bipush 8, 2) := by decide +kernel
theorem dX2_indexOf_21 : decode cX2_indexOf 21 = .ok (.imul, 1) := by decide +kernel
theorem dX2_indexOf_22 : decode cX2_indexOf 22 = .ok (.iload_n 2, 1) := by decide +kernel
theorem dX2_indexOf_23 : decode cX2_indexOf 23 = .ok (.iadd, 1) := by decide +kernel
theorem dX2_indexOf_24 : decode cX2_indexOf 24 = .ok (.goto 4, 3) := by decide +kernel
theorem dX2_indexOf_27 : decode cX2_indexOf 27 = .ok (.iconst (-1), 1) := by decide +kernel
theorem dX2_indexOf_28 : decode cX2_indexOf 28 = .ok (.ireturn, 1) := by decide +kernel
theorem dX2_has_0 : decode cX2_has 0 = .ok (.iload_n 1, 1) := by decide +kernel
theorem dX2_has_1 : decode cX2_has 1 = .ok (.ifCond .lt 15, 3) := by decide +kernel
theorem dX2_has_4 : decode cX2_has 4 = .ok (.iload_n 1, 1) := by decide +kernel
theorem dX2_has_5 : decode cX2_has 5 = .ok (.aload_n 0, 1) := by decide +kernel
theorem dX2_has_6 : decode cX2_has 6 = .ok (.getfield 29, 3) := by decide +kernel
theorem dX2_has_9 : decode cX2_has 9 = .ok (.if_icmp .ge 7, 3) := by decide +kernel
theorem dX2_has_12 : decode cX2_has 12 = .ok (.iconst 1, 1) := by decide +kernel
theorem dX2_has_13 : decode cX2_has 13 = .ok (.goto 4, 3) := by decide +kernel
theorem dX2_has_16 : decode cX2_has 16 = .ok (.iconst 0, 1) := by decide +kernel
theorem dX2_has_17 : decode cX2_has 17 = .ok (.ireturn, 1) := by decide +kernel
theorem dX2_get_0 : decode cX2_get 0 = .ok (.aload_n 0, 1) := by decide +kernel
theorem dX2_get_1 : decode cX2_get 1 = .ok (.iload_n 1, 1) := by decide +kernel
theorem dX2_get_2 : decode cX2_get 2 = .ok (.iload_n 2, 1) := by decide +kernel
theorem dX2_get_3 : decode cX2_get 3 = .ok (.invokevirtual 37, 3) := by decide +kernel
theorem dX2_get_6 : decode cX2_get 6 = .ok (.istore_n 3, 1) := by decide +kernel
theorem dX2_get_7 : decode cX2_get 7 = .ok (.iload_n 3, 1) := by decide +kernel
theorem dX2_get_8 : decode cX2_get 8 = .ok (.ifCond .lt 21, 3) := by decide +kernel
theorem dX2_get_11 : decode cX2_get 11 = .ok (.iload_n 3, 1) := by decide +kernel
theorem dX2_get_12 : decode cX2_get 12 = .ok (.aload_n 0, 1) := by decide +kernel
theorem dX2_get_13 : decode cX2_get 13 = .ok (.getfield 25, 3) := by decide +kernel
theorem dX2_get_16 : decode cX2_get 16 = .ok (.arraylength, 1) := by decide +kernel
theorem dX2_get_17 : decode cX2_get 17 = .ok (.if_icmp .ge 12, 3) := by decide +kernel
theorem dX2_get_20 : decode cX2_get 20 = .ok (.aload_n 0, 1) := by decide +kernel
theorem dX2_get_21 : decode cX2_get 21 = .ok (.getfield 25, 3) := by decide +kernel
theorem dX2_get_24 : decode cX2_get 24 = .ok (.iload_n 3, 1) := by decide +kernel
theorem dX2_get_25 : decode cX2_get 25 = .ok (.iaload, 1) := by decide +kernel
theorem dX2_get_26 : decode cX2_get 26 = .ok (.goto 4, 3) := by decide +kernel
theorem dX2_get_29 : decode cX2_get 29 = .ok (.iconst 0, 1) := by decide +kernel
theorem dX2_get_30 : decode cX2_get 30 = .ok (.ireturn, 1) := by decide +kernel
theorem dX2_layOutUpToZeros_0 : decode cX2_layOutUpToZeros 0 = .ok (.iload_n 1, 1) := by decide +kernel
theorem dX2_layOutUpToZeros_1 : decode cX2_layOutUpToZeros 1 = .ok (.istore 5, 2) := by decide +kernel
theorem dX2_layOutUpToZeros_3 : decode cX2_layOutUpToZeros 3 = .ok (.iconst 0, 1) := by decide +kernel
theorem dX2_layOutUpToZeros_4 : decode cX2_layOutUpToZeros 4 = .ok (.istore 6, 2) := by decide +kernel
theorem dX2_layOutUpToZeros_6 : decode cX2_layOutUpToZeros 6 = .ok (.iload 6, 2) := by decide +kernel
theorem dX2_layOutUpToZeros_8 : decode cX2_layOutUpToZeros 8 = .ok (.sipush 4096, 3) := by decide +kernel
theorem dX2_layOutUpToZeros_11 : decode cX2_layOutUpToZeros 11 = .ok (.if_icmp .ge 64, 3) := by decide +kernel
theorem dX2_layOutUpToZeros_14 : decode cX2_layOutUpToZeros 14 = .ok (.iload 5, 2) := by decide +kernel
theorem dX2_layOutUpToZeros_16 : decode cX2_layOutUpToZeros 16 = .ok (.iconst (-1), 1) := by decide +kernel
theorem dX2_layOutUpToZeros_17 : decode cX2_layOutUpToZeros 17 = .ok (.if_icmp .eq 58, 3) := by decide +kernel
theorem dX2_layOutUpToZeros_20 : decode cX2_layOutUpToZeros 20 = .ok (.iload 5, 2) := by decide +kernel
theorem dX2_layOutUpToZeros_22 : decode cX2_layOutUpToZeros 22 = .ok (.iload_n 2, 1) := by decide +kernel
theorem dX2_layOutUpToZeros_23 : decode cX2_layOutUpToZeros 23 = .ok (.iconst 1, 1) := by decide +kernel
theorem dX2_layOutUpToZeros_24 : decode cX2_layOutUpToZeros 24 = .ok (.isub, 1) := by decide +kernel
theorem dX2_layOutUpToZeros_25 : decode cX2_layOutUpToZeros 25 = .ok (.if_icmp .ge 50, 3) := by decide +kernel
theorem dX2_layOutUpToZeros_28 : decode cX2_layOutUpToZeros 28 = .ok (.aload_n 0, 1) := by decide +kernel
theorem dX2_layOutUpToZeros_29 : decode cX2_layOutUpToZeros 29 = .ok (.getfield 12, 3) := by decide +kernel
theorem dX2_layOutUpToZeros_32 : decode cX2_layOutUpToZeros 32 = .ok (.iload 5, 2) := by decide +kernel
theorem dX2_layOutUpToZeros_34 : decode cX2_layOutUpToZeros 34 = .ok (.invokevirtual 74, 3) := by decide +kernel
theorem dX2_layOutUpToZeros_37 : decode cX2_layOutUpToZeros 37 = .ok (.ifCond .ne 20, 3) := by decide +kernel
theorem dX2_layOutUpToZeros_40 : decode cX2_layOutUpToZeros 40 = .ok (.aload_n 0, 1) := by decide +kernel
theorem dX2_layOutUpToZeros_41 : decode cX2_layOutUpToZeros 41 = .ok (.getfield 12, 3) := by decide +kernel
theorem dX2_layOutUpToZeros_44 : decode cX2_layOutUpToZeros 44 = .ok (.iload 5, 2) := by decide +kernel
theorem dX2_layOutUpToZeros_46 : decode cX2_layOutUpToZeros 46 = .ok (.iconst 1, 1) := by decide +kernel
theorem dX2_layOutUpToZeros_47 : decode cX2_layOutUpToZeros 47 = .ok (.iadd, 1) := by decide +kernel
theorem dX2_layOutUpToZeros_48 : decode cX2_layOutUpToZeros 48 = .ok (.invokevirtual 74, 3) := by decide +kernel
theorem dX2_layOutUpToZeros_51 : decode cX2_layOutUpToZeros 51 = .ok (.ifCond .ne 6, 3) := by decide +kernel
theorem dX2_layOutUpToZeros_54 : decode cX2_layOutUpToZeros 54 = .ok (.iload 5, 2) := by decide +kernel
theorem dX2_layOutUpToZeros_56 : decode cX2_layOutUpToZeros 56 = .ok (.ireturn, 1) := by decide +kernel
theorem dX2_layOutUpToZeros_57 : decode cX2_layOutUpToZeros 57 = .ok (.aload_n 0, 1) := by decide +kernel
theorem dX2_layOutUpToZeros_58 : decode cX2_layOutUpToZeros 58 = .ok (.iload 5, 2) := by decide +kernel
theorem dX2_layOutUpToZeros_60 : decode cX2_layOutUpToZeros 60 = .ok (.iload_n 2, 1) := by decide +kernel
theorem dX2_layOutUpToZeros_61 : decode cX2_layOutUpToZeros 61 = .ok (.iload_n 3, 1) := by decide +kernel
theorem dX2_layOutUpToZeros_62 : decode cX2_layOutUpToZeros 62 = .ok (.iload 4, 2) := by decide +kernel
theorem dX2_layOutUpToZeros_64 : decode cX2_layOutUpToZeros 64 = .ok (.invokevirtual 49, 3) := by decide +kernel
theorem dX2_layOutUpToZeros_67 : decode cX2_layOutUpToZeros 67 = .ok (.istore 5, 2) := by decide +kernel
theorem dX2_layOutUpToZeros_69 : decode cX2_layOutUpToZeros 69 = .ok (.iinc 6 1, 3) := by decide +kernel
theorem dX2_layOutUpToZeros_72 : decode cX2_layOutUpToZeros 72 = .ok (.goto (-66), 3) := by decide +kernel
theorem dX2_layOutUpToZeros_75 : decode cX2_layOutUpToZeros 75 = .ok (.iconst (-1), 1) := by decide +kernel
theorem dX2_layOutUpToZeros_76 : decode cX2_layOutUpToZeros 76 = .ok (.ireturn, 1) := by decide +kernel
theorem dX2_layOutUpTo_0 : decode cX2_layOutUpTo 0 = .ok (.iload_n 1, 1) := by decide +kernel
theorem dX2_layOutUpTo_1 : decode cX2_layOutUpTo 1 = .ok (.istore 5, 2) := by decide +kernel
theorem dX2_layOutUpTo_3 : decode cX2_layOutUpTo 3 = .ok (.iconst 0, 1) := by decide +kernel
theorem dX2_layOutUpTo_4 : decode cX2_layOutUpTo 4 = .ok (.istore 6, 2) := by decide +kernel
theorem dX2_layOutUpTo_6 : decode cX2_layOutUpTo 6 = .ok (.iload 6, 2) := by decide +kernel
theorem dX2_layOutUpTo_8 : decode cX2_layOutUpTo 8 = .ok (.sipush 4096, 3) := by decide +kernel
theorem dX2_layOutUpTo_11 : decode cX2_layOutUpTo 11 = .ok (.if_icmp .ge 33, 3) := by decide +kernel
theorem dX2_layOutUpTo_14 : decode cX2_layOutUpTo 14 = .ok (.iload 5, 2) := by decide +kernel
theorem dX2_layOutUpTo_16 : decode cX2_layOutUpTo 16 = .ok (.iconst (-1), 1) := by decide +kernel
theorem dX2_layOutUpTo_17 : decode cX2_layOutUpTo 17 = .ok (.if_icmp .eq 27, 3) := by decide +kernel
theorem dX2_layOutUpTo_20 : decode cX2_layOutUpTo 20 = .ok (.iload 5, 2) := by decide +kernel
theorem dX2_layOutUpTo_22 : decode cX2_layOutUpTo 22 = .ok (.iload_n 2, 1) := by decide +kernel
theorem dX2_layOutUpTo_23 : decode cX2_layOutUpTo 23 = .ok (.if_icmp .ge 21, 3) := by decide +kernel
theorem dX2_layOutUpTo_26 : decode cX2_layOutUpTo 26 = .ok (.aload_n 0, 1) := by decide +kernel
theorem dX2_layOutUpTo_27 : decode cX2_layOutUpTo 27 = .ok (.iload 5, 2) := by decide +kernel
theorem dX2_layOutUpTo_29 : decode cX2_layOutUpTo 29 = .ok (.iload_n 2, 1) := by decide +kernel
theorem dX2_layOutUpTo_30 : decode cX2_layOutUpTo 30 = .ok (.iload_n 3, 1) := by decide +kernel
theorem dX2_layOutUpTo_31 : decode cX2_layOutUpTo 31 = .ok (.iload 4, 2) := by decide +kernel
theorem dX2_layOutUpTo_33 : decode cX2_layOutUpTo 33 = .ok (.invokevirtual 49, 3) := by decide +kernel
theorem dX2_layOutUpTo_36 : decode cX2_layOutUpTo 36 = .ok (.istore 5, 2) := by decide +kernel
theorem dX2_layOutUpTo_38 : decode cX2_layOutUpTo 38 = .ok (.iinc 6 1, 3) := by decide +kernel
theorem dX2_layOutUpTo_41 : decode cX2_layOutUpTo 41 = .ok (.goto (-35), 3) := by decide +kernel
theorem dX2_layOutUpTo_44 : decode cX2_layOutUpTo 44 = .ok (.iload 5, 2) := by decide +kernel
theorem dX2_layOutUpTo_46 : decode cX2_layOutUpTo 46 = .ok (.iload_n 2, 1) := by decide +kernel
theorem dX2_layOutUpTo_47 : decode cX2_layOutUpTo 47 = .ok (.if_icmp .ne 7, 3) := by decide +kernel
theorem dX2_layOutUpTo_50 : decode cX2_layOutUpTo 50 = .ok (.iconst 1, 1) := by decide +kernel
theorem dX2_layOutUpTo_51 : decode cX2_layOutUpTo 51 = .ok (.goto 4, 3) := by decide +kernel
theorem dX2_layOutUpTo_54 : decode cX2_layOutUpTo 54 = .ok (.iconst 0, 1) := by decide +kernel
theorem dX2_layOutUpTo_55 : decode cX2_layOutUpTo 55 = .ok (.ireturn, 1) := by decide +kernel
theorem dX2_size_0 : decode cX2_size 0 = .ok (.aload_n 0, 1) := by decide +kernel
theorem dX2_size_1 : decode cX2_size 1 = .ok (.getfield 29, 3) := by decide +kernel
theorem dX2_size_4 : decode cX2_size 4 = .ok (.ireturn, 1) := by decide +kernel
theorem dX2_holdsNumber_0 : decode cX2_holdsNumber 0 = .ok (.aload_n 0, 1) := by decide +kernel
theorem dX2_holdsNumber_1 : decode cX2_holdsNumber 1 = .ok (.iload_n 1, 1) := by decide +kernel
theorem dX2_holdsNumber_2 : decode cX2_holdsNumber 2 = .ok (.iconst 5, 1) := by decide +kernel
theorem dX2_holdsNumber_3 : decode cX2_holdsNumber 3 = .ok (.invokevirtual 53, 3) := by decide +kernel
theorem dX2_holdsNumber_6 : decode cX2_holdsNumber 6 = .ok (.istore_n 2, 1) := by decide +kernel
theorem dX2_holdsNumber_7 : decode cX2_holdsNumber 7 = .ok (.iload_n 2, 1) := by decide +kernel
theorem dX2_holdsNumber_8 : decode cX2_holdsNumber 8 = .ok (.iconst 1, 1) := by decide +kernel
theorem dX2_holdsNumber_9 : decode cX2_holdsNumber 9 = .ok (.if_icmp .lt 9, 3) := by decide +kernel
theorem dX2_holdsNumber_12 : decode cX2_holdsNumber 12 = .ok (.iload_n 2, 1) := by decide +kernel
theorem dX2_holdsNumber_13 : decode cX2_holdsNumber 13 = .ok (.bipush 8, 2) := by decide +kernel
theorem dX2_holdsNumber_15 : decode cX2_holdsNumber 15 = .ok (.if_icmp .le 5, 3) := by decide +kernel
theorem dX2_holdsNumber_18 : decode cX2_holdsNumber 18 = .ok (.iconst 0, 1) := by decide +kernel
theorem dX2_holdsNumber_19 : decode cX2_holdsNumber 19 = .ok (.ireturn, 1) := by decide +kernel
theorem dX2_holdsNumber_20 : decode cX2_holdsNumber 20 = .ok (.iload_n 2, 1) := by decide +kernel
theorem dX2_holdsNumber_21 : decode cX2_holdsNumber 21 = .ok (.iconst 1, 1) := by decide +kernel
theorem dX2_holdsNumber_22 : decode cX2_holdsNumber 22 = .ok (.if_icmp .ne 5, 3) := by decide +kernel
theorem dX2_holdsNumber_25 : decode cX2_holdsNumber 25 = .ok (.iconst 1, 1) := by decide +kernel
theorem dX2_holdsNumber_26 : decode cX2_holdsNumber 26 = .ok (.ireturn, 1) := by decide +kernel
theorem dX2_holdsNumber_27 : decode cX2_holdsNumber 27 = .ok (.aload_n 0, 1) := by decide +kernel
theorem dX2_holdsNumber_28 : decode cX2_holdsNumber 28 = .ok (.iload_n 1, 1) := by decide +kernel
theorem dX2_holdsNumber_29 : decode cX2_holdsNumber 29 = .ok (.iconst 0, 1) := by decide +kernel
theorem dX2_holdsNumber_30 : decode cX2_holdsNumber 30 = .ok (.invokevirtual 56, 3) := by decide +kernel
theorem dX2_holdsNumber_33 : decode cX2_holdsNumber 33 = .ok (.iconst 2, 1) := by decide +kernel
theorem dX2_holdsNumber_34 : decode cX2_holdsNumber 34 = .ok (.imul, 1) := by decide +kernel
theorem dX2_holdsNumber_35 : decode cX2_holdsNumber 35 = .ok (.aload_n 0, 1) := by decide +kernel
theorem dX2_holdsNumber_36 : decode cX2_holdsNumber 36 = .ok (.iload_n 1, 1) := by decide +kernel
theorem dX2_holdsNumber_37 : decode cX2_holdsNumber 37 = .ok (.iconst 1, 1) := by decide +kernel
theorem dX2_holdsNumber_38 : decode cX2_holdsNumber 38 = .ok (.invokevirtual 56, 3) := by decide +kernel
theorem dX2_holdsNumber_41 : decode cX2_holdsNumber 41 = .ok (.bipush 7, 2) := by decide +kernel
theorem dX2_holdsNumber_43 : decode cX2_holdsNumber 43 = .ok (.ishr, 1) := by decide +kernel
theorem dX2_holdsNumber_44 : decode cX2_holdsNumber 44 = .ok (.iadd, 1) := by decide +kernel
theorem dX2_holdsNumber_45 : decode cX2_holdsNumber 45 = .ok (.istore_n 3, 1) := by decide +kernel
theorem dX2_holdsNumber_46 : decode cX2_holdsNumber 46 = .ok (.iload_n 3, 1) := by decide +kernel
theorem dX2_holdsNumber_47 : decode cX2_holdsNumber 47 = .ok (.ifCond .eq 14, 3) := by decide +kernel
theorem dX2_holdsNumber_50 : decode cX2_holdsNumber 50 = .ok (.iload_n 3, 1) := by decide +kernel
theorem dX2_holdsNumber_51 : decode cX2_holdsNumber 51 = .ok (.sipush 511, 3) := by decide +kernel
theorem dX2_holdsNumber_54 : decode cX2_holdsNumber 54 = .ok (.if_icmp .eq 7, 3) := by decide +kernel
theorem dX2_holdsNumber_57 : decode cX2_holdsNumber 57 = .ok (.iconst 1, 1) := by decide +kernel
theorem dX2_holdsNumber_58 : decode cX2_holdsNumber 58 = .ok (.goto 4, 3) := by decide +kernel
theorem dX2_holdsNumber_61 : decode cX2_holdsNumber 61 = .ok (.iconst 0, 1) := by decide +kernel
theorem dX2_holdsNumber_62 : decode cX2_holdsNumber 62 = .ok (.ireturn, 1) := by decide +kernel
theorem dX2_contentsAt_0 : decode cX2_contentsAt 0 = .ok (.iload_n 2, 1) := by decide +kernel
theorem dX2_contentsAt_1 : decode cX2_contentsAt 1 = .ok (.ifCond .lt 31, 3) := by decide +kernel
theorem dX2_contentsAt_4 : decode cX2_contentsAt 4 = .ok (.iload_n 2, 1) := by decide +kernel
theorem dX2_contentsAt_5 : decode cX2_contentsAt 5 = .ok (.aload_n 0, 1) := by decide +kernel
theorem dX2_contentsAt_6 : decode cX2_contentsAt 6 = .ok (.iload_n 1, 1) := by decide +kernel
theorem dX2_contentsAt_7 : decode cX2_contentsAt 7 = .ok (.iconst 5, 1) := by decide +kernel
theorem dX2_contentsAt_8 : decode cX2_contentsAt 8 = .ok (.invokevirtual 53, 3) := by decide +kernel
theorem dX2_contentsAt_11 : decode cX2_contentsAt 11 = .ok (.if_icmp .ge 21, 3) := by decide +kernel
theorem dX2_contentsAt_14 : decode cX2_contentsAt 14 = .ok (.aload_n 0, 1) := by decide +kernel
theorem dX2_contentsAt_15 : decode cX2_contentsAt 15 = .ok (.getfield 12, 3) := by decide +kernel
theorem dX2_contentsAt_18 : decode cX2_contentsAt 18 = .ok (.aload_n 0, 1) := by decide +kernel
theorem dX2_contentsAt_19 : decode cX2_contentsAt 19 = .ok (.iload_n 1, 1) := by decide +kernel
theorem dX2_contentsAt_20 : decode cX2_contentsAt 20 = .ok (.iconst 4, 1) := by decide +kernel
theorem dX2_contentsAt_21 : decode cX2_contentsAt 21 = .ok (.invokevirtual 53, 3) := by decide +kernel
theorem dX2_contentsAt_24 : decode cX2_contentsAt 24 = .ok (.iload_n 2, 1) := by decide +kernel
theorem dX2_contentsAt_25 : decode cX2_contentsAt 25 = .ok (.iadd, 1) := by decide +kernel
theorem dX2_contentsAt_26 : decode cX2_contentsAt 26 = .ok (.invokevirtual 74, 3) := by decide +kernel
theorem dX2_contentsAt_29 : decode cX2_contentsAt 29 = .ok (.goto 4, 3) := by decide +kernel
theorem dX2_contentsAt_32 : decode cX2_contentsAt 32 = .ok (.iconst 0, 1) := by decide +kernel
theorem dX2_contentsAt_33 : decode cX2_contentsAt 33 = .ok (.ireturn, 1) := by decide +kernel
theorem dX2_signedContents_0 : decode cX2_signedContents 0 = .ok (.aload_n 0, 1) := by decide +kernel
theorem dX2_signedContents_1 : decode cX2_signedContents 1 = .ok (.iload_n 1, 1) := by decide +kernel
theorem dX2_signedContents_2 : decode cX2_signedContents 2 = .ok (.iconst 0, 1) := by decide +kernel
theorem dX2_signedContents_3 : decode cX2_signedContents 3 = .ok (.invokevirtual 56, 3) := by decide +kernel
theorem dX2_signedContents_6 : decode cX2_signedContents 6 = .ok (.sipush 128, 3) := by decide +kernel
theorem dX2_signedContents_9 : decode cX2_signedContents 9 = .ok (.if_icmp .lt 9, 3) := by decide +kernel
theorem dX2_signedContents_12 : decode cX2_signedContents 12 = .ok (.ldc2_w 59, 3) := by decide +kernel
theorem dX2_signedContents_15 : decode cX2_signedContents 15 = .ok (.goto 4, 3) := by decide +kernel
theorem dX2_signedContents_18 : decode cX2_signedContents 18 = .ok (.lconst 0, 1) := by decide +kernel
theorem dX2_signedContents_19 : decode cX2_signedContents 19 = .ok (.lstore_n 2, 1) := by decide +kernel
theorem dX2_signedContents_20 : decode cX2_signedContents 20 = .ok (.aload_n 0, 1) := by decide +kernel
theorem dX2_signedContents_21 : decode cX2_signedContents 21 = .ok (.iload_n 1, 1) := by decide +kernel
theorem dX2_signedContents_22 : decode cX2_signedContents 22 = .ok (.iconst 5, 1) := by decide +kernel
theorem dX2_signedContents_23 : decode cX2_signedContents 23 = .ok (.invokevirtual 53, 3) := by decide +kernel
theorem dX2_signedContents_26 : decode cX2_signedContents 26 = .ok (.bipush 8, 2) := by decide +kernel
theorem dX2_signedContents_28 : decode cX2_signedContents 28 = .ok (.invokestatic 61, 3) := by decide +kernel
theorem dX2_signedContents_31 : decode cX2_signedContents 31 = .ok (.istore 4, 2) := by decide +kernel
theorem dX2_signedContents_33 : decode cX2_signedContents 33 = .ok (.iconst 0, 1) := by decide +kernel
theorem dX2_signedContents_34 : decode cX2_signedContents 34 = .ok (.istore 5, 2) := by decide +kernel
theorem dX2_signedContents_36 : decode cX2_signedContents 36 = .ok (.iload 5, 2) := by decide +kernel
theorem dX2_signedContents_38 : decode cX2_signedContents 38 = .ok (.iload 4, 2) := by decide +kernel
theorem dX2_signedContents_40 : decode cX2_signedContents 40 = .ok (.if_icmp .ge 23, 3) := by decide +kernel
theorem dX2_signedContents_43 : decode cX2_signedContents 43 = .ok (.lload_n 2, 1) := by decide +kernel
theorem dX2_signedContents_44 : decode cX2_signedContents 44 = .ok (.bipush 8, 2) := by decide +kernel
theorem dX2_signedContents_46 : decode cX2_signedContents 46 = .ok (.lshl, 1) := by decide +kernel
theorem dX2_signedContents_47 : decode cX2_signedContents 47 = .ok (.aload_n 0, 1) := by decide +kernel
theorem dX2_signedContents_48 : decode cX2_signedContents 48 = .ok (.iload_n 1, 1) := by decide +kernel
theorem dX2_signedContents_49 : decode cX2_signedContents 49 = .ok (.iload 5, 2) := by decide +kernel
theorem dX2_signedContents_51 : decode cX2_signedContents 51 = .ok (.invokevirtual 56, 3) := by decide +kernel
theorem dX2_signedContents_54 : decode cX2_signedContents 54 = .ok (.i2l, 1) := by decide +kernel
theorem dX2_signedContents_55 : decode cX2_signedContents 55 = .ok (.lor, 1) := by decide +kernel
theorem dX2_signedContents_56 : decode cX2_signedContents 56 = .ok (.lstore_n 2, 1) := by decide +kernel
theorem dX2_signedContents_57 : decode cX2_signedContents 57 = .ok (.iinc 5 1, 3) := by decide +kernel
theorem dX2_signedContents_60 : decode cX2_signedContents 60 = .ok (.goto (-24), 3) := by decide +kernel
theorem dX2_signedContents_63 : decode cX2_signedContents 63 = .ok (.lload_n 2, 1) := by decide +kernel
theorem dX2_signedContents_64 : decode cX2_signedContents 64 = .ok (.lreturn, 1) := by decide +kernel
theorem dX2_orderOf_0 : decode cX2_orderOf 0 = .ok (.sipush 4096, 3) := by decide +kernel
theorem dX2_orderOf_3 : decode cX2_orderOf 3 = .ok (.aload_n 0, 1) := by decide +kernel
theorem dX2_orderOf_4 : decode cX2_orderOf 4 = .ok (.iload_n 1, 1) := by decide +kernel
theorem dX2_orderOf_5 : decode cX2_orderOf 5 = .ok (.iconst 5, 1) := by decide +kernel
theorem dX2_orderOf_6 : decode cX2_orderOf 6 = .ok (.invokevirtual 53, 3) := by decide +kernel
theorem dX2_orderOf_9 : decode cX2_orderOf 9 = .ok (.aload_n 0, 1) := by decide +kernel
theorem dX2_orderOf_10 : decode cX2_orderOf 10 = .ok (.iload_n 2, 1) := by decide +kernel
theorem dX2_orderOf_11 : decode cX2_orderOf 11 = .ok (.iconst 5, 1) := by decide +kernel
theorem dX2_orderOf_12 : decode cX2_orderOf 12 = .ok (.invokevirtual 53, 3) := by decide +kernel
theorem dX2_orderOf_15 : decode cX2_orderOf 15 = .ok (.invokestatic 66, 3) := by decide +kernel
theorem dX2_orderOf_18 : decode cX2_orderOf 18 = .ok (.invokestatic 61, 3) := by decide +kernel
theorem dX2_orderOf_21 : decode cX2_orderOf 21 = .ok (.istore_n 3, 1) := by decide +kernel
theorem dX2_orderOf_22 : decode cX2_orderOf 22 = .ok (.iconst 0, 1) := by decide +kernel
theorem dX2_orderOf_23 : decode cX2_orderOf 23 = .ok (.istore 4, 2) := by decide +kernel
theorem dX2_orderOf_25 : decode cX2_orderOf 25 = .ok (.iload 4, 2) := by decide +kernel
theorem dX2_orderOf_27 : decode cX2_orderOf 27 = .ok (.iload_n 3, 1) := by decide +kernel
theorem dX2_orderOf_28 : decode cX2_orderOf 28 = .ok (.if_icmp .ge 36, 3) := by decide +kernel
theorem dX2_orderOf_31 : decode cX2_orderOf 31 = .ok (.aload_n 0, 1) := by decide +kernel
theorem dX2_orderOf_32 : decode cX2_orderOf 32 = .ok (.iload_n 1, 1) := by decide +kernel
theorem dX2_orderOf_33 : decode cX2_orderOf 33 = .ok (.iload 4, 2) := by decide +kernel
theorem dX2_orderOf_35 : decode cX2_orderOf 35 = .ok (.invokevirtual 56, 3) := by decide +kernel
theorem dX2_orderOf_38 : decode cX2_orderOf 38 = .ok (.aload_n 0, 1) := by decide +kernel
theorem dX2_orderOf_39 : decode cX2_orderOf 39 = .ok (.iload_n 2, 1) := by decide +kernel
theorem dX2_orderOf_40 : decode cX2_orderOf 40 = .ok (.iload 4, 2) := by decide +kernel
theorem dX2_orderOf_42 : decode cX2_orderOf 42 = .ok (.invokevirtual 56, 3) := by decide +kernel
theorem dX2_orderOf_45 : decode cX2_orderOf 45 = .ok (.invokestatic 69, 3) := by decide +kernel
theorem dX2_orderOf_48 : decode cX2_orderOf 48 = .ok (.istore 5, 2) := by decide +kernel
theorem dX2_orderOf_50 : decode cX2_orderOf 50 = .ok (.iload 5, 2) := by decide +kernel
theorem dX2_orderOf_52 : decode cX2_orderOf 52 = .ok (.ifCond .eq 6, 3) := by decide +kernel
theorem dX2_orderOf_55 : decode cX2_orderOf 55 = .ok (.iload 5, 2) := by decide +kernel
theorem dX2_orderOf_57 : decode cX2_orderOf 57 = .ok (.ireturn, 1) := by decide +kernel
theorem dX2_orderOf_58 : decode cX2_orderOf 58 = .ok (.iinc 4 1, 3) := by decide +kernel
theorem dX2_orderOf_61 : decode cX2_orderOf 61 = .ok (.goto (-36), 3) := by decide +kernel
theorem dX2_orderOf_64 : decode cX2_orderOf 64 = .ok (.iconst 0, 1) := by decide +kernel
theorem dX2_orderOf_65 : decode cX2_orderOf 65 = .ok (.ireturn, 1) := by decide +kernel
end
section
theorem dX3_init_0 : decode cX3_init 0 = .ok (.aload_n 0, 1) := by decide +kernel
theorem dX3_init_1 : decode cX3_init 1 = .ok (.invokespecial 3, 3) := by decide +kernel
theorem dX3_init_4 : decode cX3_init 4 = .ok (.aload_n 0, 1) := by decide +kernel
theorem dX3_init_5 : decode cX3_init 5 = .ok (.new 9, 3) := by decide +kernel
theorem dX3_init_8 : decode cX3_init 8 = .ok (.dup, 1) := by decide +kernel
theorem dX3_init_9 : decode cX3_init 9 = .ok (.invokespecial 11, 3) := by decide +kernel
theorem dX3_init_12 : decode cX3_init 12 = .ok (.putfield 12, 3) := by decide +kernel
theorem dX3_init_15 : decode cX3_init 15 = .ok (.aload_n 0, 1) := by decide +kernel
theorem dX3_init_16 : decode cX3_init 16 = .ok (.new 9, 3) := by decide +kernel
theorem dX3_init_19 : decode cX3_init 19 = .ok (.dup, 1) := by decide +kernel
theorem dX3_init_20 : decode cX3_init 20 = .ok (.invokespecial 11, 3) := by decide +kernel
theorem dX3_init_23 : decode cX3_init 23 = .ok (.putfield 16, 3) := by decide +kernel
theorem dX3_init_26 : decode cX3_init 26 = .ok (.aload_n 0, 1) := by decide +kernel
theorem dX3_init_27 : decode cX3_init 27 = .ok (.new 19, 3) := by decide +kernel
theorem dX3_init_30 : decode cX3_init 30 = .ok (.dup, 1) := by decide +kernel
theorem dX3_init_31 : decode cX3_init 31 = .ok (.invokespecial 21, 3) := by decide +kernel
theorem dX3_init_34 : decode cX3_init 34 = .ok (.putfield 22, 3) := by decide +kernel
theorem dX3_init_37 : decode cX3_init 37 = .ok (.aload_n 0, 1) := by decide +kernel
theorem dX3_init_38 : decode cX3_init 38 = .ok (.new 19, 3) := by decide +kernel
theorem dX3_init_41 : decode cX3_init 41 = .ok (.dup, 1) := by decide +kernel
theorem dX3_init_42 : decode cX3_init 42 = .ok (.invokespecial 21, 3) := by decide +kernel
theorem dX3_init_45 : decode cX3_init 45 = .ok (.putfield 26, 3) := by decide +kernel
theorem dX3_init_48 : decode cX3_init 48 = .ok (.return_, 1) := by decide +kernel
theorem dX3_feed_0 : decode cX3_feed 0 = .ok (.aload_n 0, 1) := by decide +kernel
theorem dX3_feed_1 : decode cX3_feed 1 = .ok (.getfield 12, 3) := by decide +kernel
theorem dX3_feed_4 : decode cX3_feed 4 = .ok (.bipush 20, 2) := by decide +kernel
theorem dX3_feed_6 : decode cX3_feed 6 = .ok (.invokevirtual 29, 3) := by decide +kernel
theorem dX3_feed_9 : decode cX3_feed 9 = .ok (.ifCond .ne 13, 3) := by decide +kernel
theorem dX3_feed_12 : decode cX3_feed 12 = .ok (.new 33, 3) := by decide +kernel
theorem dX3_feed_15 : decode cX3_feed 15 = .ok (.dup, 1) := by decide +kernel
theorem dX3_feed_16 : decode cX3_feed 16 = .ok (.ldc 35, 2) := by decide +kernel
theorem dX3_feed_18 : decode cX3_feed 18 = .ok (.invokespecial 37, 3) := by decide +kernel
theorem dX3_feed_21 : decode cX3_feed 21 = .ok (.athrow, 1) := by decide +kernel
theorem dX3_feed_22 : decode cX3_feed 22 = .ok (.aload_n 0, 1) := by decide +kernel
theorem dX3_feed_23 : decode cX3_feed 23 = .ok (.getfield 12, 3) := by decide +kernel
theorem dX3_feed_26 : decode cX3_feed 26 = .ok (.iload_n 1, 1) := by decide +kernel
theorem dX3_feed_27 : decode cX3_feed 27 = .ok (.i2l, 1) := by decide +kernel
theorem dX3_feed_28 : decode cX3_feed 28 = .ok (.iconst 4, 1) := by decide +kernel
theorem dX3_feed_29 : decode cX3_feed 29 = .ok (.invokevirtual 40, 3) := by decide +kernel
theorem dX3_feed_32 : decode cX3_feed 32 = .ok (.aload_n 0, 1) := by decide +kernel
theorem dX3_feed_33 : decode cX3_feed 33 = .ok (.getfield 12, 3) := by decide +kernel
theorem dX3_feed_36 : decode cX3_feed 36 = .ok (.iload_n 2, 1) := by decide +kernel
theorem dX3_feed_37 : decode cX3_feed 37 = .ok (.i2l, 1) := by decide +kernel
theorem dX3_feed_38 : decode cX3_feed 38 = .ok (.iconst 4, 1) := by decide +kernel
theorem dX3_feed_39 : decode cX3_feed 39 = .ok (.invokevirtual 40, 3) := by decide +kernel
theorem dX3_feed_42 : decode cX3_feed 42 = .ok (.aload_n 0, 1) := by decide +kernel
theorem dX3_feed_43 : decode cX3_feed 43 = .ok (.getfield 12, 3) := by decide +kernel
theorem dX3_feed_46 : decode cX3_feed 46 = .ok (.iload_n 3, 1) := by decide +kernel
theorem dX3_feed_47 : decode cX3_feed 47 = .ok (.i2l, 1) := by decide +kernel
theorem dX3_feed_48 : decode cX3_feed 48 = .ok (.iconst 4, 1) := by decide +kernel
theorem dX3_feed_49 : decode cX3_feed 49 = .ok (.invokevirtual 40, 3) := by decide +kernel
theorem dX3_feed_52 : decode cX3_feed 52 = .ok (.aload_n 0, 1) := by decide +kernel
theorem dX3_feed_53 : decode cX3_feed 53 = .ok (.getfield 12, 3) := by decide +kernel
theorem dX3_feed_56 : decode cX3_feed 56 = .ok (.iload 4, 2) := by decide +kernel
theorem dX3_feed_58 : decode cX3_feed 58 = .ok (.i2l, 1) := by decide +kernel
theorem dX3_feed_59 : decode cX3_feed 59 = .ok (.iconst 4, 1) := by decide +kernel
theorem dX3_feed_60 : decode cX3_feed 60 = .ok (.invokevirtual 40, 3) := by decide +kernel
theorem dX3_feed_63 : decode cX3_feed 63 = .ok (.aload_n 0, 1) := by decide +kernel
theorem dX3_feed_64 : decode cX3_feed 64 = .ok (.getfield 12, 3) := by decide +kernel
theorem dX3_feed_67 : decode cX3_feed 67 = .ok (.iload 5, 2) := by decide +kernel
theorem dX3_feed_69 : decode cX3_feed 69 = .ok (.i2l, 1) := by decide +kernel
theorem dX3_feed_70 : decode cX3_feed 70 = .ok (.iconst 4, 1) := by decide +kernel
theorem dX3_feed_71 : decode cX3_feed 71 = .ok (.invokevirtual 40, 3) := by decide +kernel
theorem dX3_feed_74 : decode cX3_feed 74 = .ok (.aload_n 0, 1) := by decide +kernel
theorem dX3_feed_75 : decode cX3_feed 75 = .ok (.getfield 12, 3) := by decide +kernel
theorem dX3_feed_78 : decode cX3_feed 78 = .ok (.invokevirtual 44, 3) := by decide +kernel
theorem dX3_feed_81 : decode cX3_feed 81 = .ok (.ireturn, 1) := by decide +kernel
theorem dX3_end_0 : decode cX3_end 0 = .ok (.iload_n 1, 1) := by decide +kernel
theorem dX3_end_1 : decode cX3_end 1 = .ok (.ifCond .lt 14, 3) := by decide +kernel
theorem dX3_end_4 : decode cX3_end 4 = .ok (.iload_n 1, 1) := by decide +kernel
theorem dX3_end_5 : decode cX3_end 5 = .ok (.aload_n 0, 1) := by decide +kernel
theorem dX3_end_6 : decode cX3_end 6 = .ok (.getfield 12, 3) := by decide +kernel
theorem dX3_end_9 : decode cX3_end 9 = .ok (.invokevirtual 44, 3) := by decide +kernel
theorem dX3_end_12 : decode cX3_end 12 = .ok (.if_icmp .le 13, 3) := by decide +kernel
theorem dX3_end_15 : decode cX3_end 15 = .ok (.new 48, 3) := by decide +kernel
theorem dX3_end_18 : decode cX3_end 18 = .ok (.dup, 1) := by decide +kernel
theorem dX3_end_19 : decode cX3_end 19 = .ok (.ldc 50, 2) := by decide +kernel
theorem dX3_end_21 : decode cX3_end 21 = .ok (.invokespecial 52, 3) := by decide +kernel
theorem dX3_end_24 : decode cX3_end 24 = .ok (.athrow, 1) := by decide +kernel
theorem dX3_end_25 : decode cX3_end 25 = .ok (.aload_n 0, 1) := by decide +kernel
theorem dX3_end_26 : decode cX3_end 26 = .ok (.getfield 12, 3) := by decide +kernel
theorem dX3_end_29 : decode cX3_end 29 = .ok (.iload_n 1, 1) := by decide +kernel
theorem dX3_end_30 : decode cX3_end 30 = .ok (.invokevirtual 53, 3) := by decide +kernel
theorem dX3_end_33 : decode cX3_end 33 = .ok (.iload_n 1, 1) := by decide +kernel
theorem dX3_end_34 : decode cX3_end 34 = .ok (.ireturn, 1) := by decide +kernel
theorem dX3_read_0 : decode cX3_read 0 = .ok (.aload_n 0, 1) := by decide +kernel
theorem dX3_read_1 : decode cX3_read 1 = .ok (.getfield 26, 3) := by decide +kernel
theorem dX3_read_4 : decode cX3_read 4 = .ok (.aload_n 0, 1) := by decide +kernel
theorem dX3_read_5 : decode cX3_read 5 = .ok (.getfield 12, 3) := by decide +kernel
theorem dX3_read_8 : decode cX3_read 8 = .ok (.iload_n 1, 1) := by decide +kernel
theorem dX3_read_9 : decode cX3_read 9 = .ok (.invokevirtual 57, 3) := by decide +kernel
theorem dX3_read_12 : decode cX3_read 12 = .ok (.ifCond .ne 13, 3) := by decide +kernel
theorem dX3_read_15 : decode cX3_read 15 = .ok (.new 61, 3) := by decide +kernel
theorem dX3_read_18 : decode cX3_read 18 = .ok (.dup, 1) := by decide +kernel
theorem dX3_read_19 : decode cX3_read 19 = .ok (.ldc 63, 2) := by decide +kernel
theorem dX3_read_21 : decode cX3_read 21 = .ok (.invokespecial 65, 3) := by decide +kernel
theorem dX3_read_24 : decode cX3_read 24 = .ok (.athrow, 1) := by decide +kernel
theorem dX3_read_25 : decode cX3_read 25 = .ok (.aload_n 0, 1) := by decide +kernel
theorem dX3_read_26 : decode cX3_read 26 = .ok (.getfield 22, 3) := by decide +kernel
theorem dX3_read_29 : decode cX3_read 29 = .ok (.astore_n 2, 1) := by decide +kernel
theorem dX3_read_30 : decode cX3_read 30 = .ok (.aload_n 0, 1) := by decide +kernel
theorem dX3_read_31 : decode cX3_read 31 = .ok (.aload_n 0, 1) := by decide +kernel
theorem dX3_read_32 : decode cX3_read 32 = .ok (.getfield 26, 3) := by decide +kernel
theorem dX3_read_35 : decode cX3_read 35 = .ok (.putfield 22, 3) := by decide +kernel
theorem dX3_read_38 : decode cX3_read 38 = .ok (.aload_n 0, 1) := by decide +kernel
theorem dX3_read_39 : decode cX3_read 39 = .ok (.aload_n 2, 1) := by decide +kernel
theorem dX3_read_40 : decode cX3_read 40 = .ok (.putfield 26, 3) := by decide +kernel
theorem dX3_read_43 : decode cX3_read 43 = .ok (.aload_n 0, 1) := by decide +kernel
theorem dX3_read_44 : decode cX3_read 44 = .ok (.getfield 22, 3) := by decide +kernel
theorem dX3_read_47 : decode cX3_read 47 = .ok (.invokevirtual 66, 3) := by decide +kernel
theorem dX3_read_50 : decode cX3_read 50 = .ok (.ireturn, 1) := by decide +kernel
theorem dX3_node_0 : decode cX3_node 0 = .ok (.aload_n 0, 1) := by decide +kernel
theorem dX3_node_1 : decode cX3_node 1 = .ok (.getfield 22, 3) := by decide +kernel
theorem dX3_node_4 : decode cX3_node 4 = .ok (.iload_n 1, 1) := by decide +kernel
theorem dX3_node_5 : decode cX3_node 5 = .ok (.invokevirtual 67, 3) := by decide +kernel
theorem dX3_node_8 : decode cX3_node 8 = .ok (.ifCond .ne 13, 3) := by decide +kernel
theorem dX3_node_11 : decode cX3_node 11 = .ok (.new 48, 3) := by decide +kernel
theorem dX3_node_14 : decode cX3_node 14 = .ok (.dup, 1) := by decide +kernel
theorem dX3_node_15 : decode cX3_node 15 = .ok (.ldc 70, 2) := by decide +kernel
theorem dX3_node_17 : decode cX3_node 17 = .ok (.invokespecial 52, 3) := by decide +kernel
theorem dX3_node_20 : decode cX3_node 20 = .ok (.athrow, 1) := by decide +kernel
theorem dX3_node_21 : decode cX3_node 21 = .ok (.iload_n 2, 1) := by decide +kernel
theorem dX3_node_22 : decode cX3_node 22 = .ok (.ifCond .lt 9, 3) := by decide +kernel
theorem dX3_node_25 : decode cX3_node 25 = .ok (.iload_n 2, 1) := by decide +kernel
theorem dX3_node_26 : decode cX3_node 26 = .ok (.bipush 8, 2) := by decide +kernel
theorem dX3_node_28 : decode cX3_node 28 = .ok (.if_icmp .lt 13, 3) := by decide +kernel
theorem dX3_node_31 : decode cX3_node 31 = .ok (.new 48, 3) := by decide +kernel
theorem dX3_node_34 : decode cX3_node 34 = .ok (.dup, 1) := by decide +kernel
theorem dX3_node_35 : decode cX3_node 35 = .ok (.ldc 72, 2) := by decide +kernel
theorem dX3_node_37 : decode cX3_node 37 = .ok (.invokespecial 52, 3) := by decide +kernel
theorem dX3_node_40 : decode cX3_node 40 = .ok (.athrow, 1) := by decide +kernel
theorem dX3_node_41 : decode cX3_node 41 = .ok (.aload_n 0, 1) := by decide +kernel
theorem dX3_node_42 : decode cX3_node 42 = .ok (.getfield 22, 3) := by decide +kernel
theorem dX3_node_45 : decode cX3_node 45 = .ok (.iload_n 1, 1) := by decide +kernel
theorem dX3_node_46 : decode cX3_node 46 = .ok (.iload_n 2, 1) := by decide +kernel
theorem dX3_node_47 : decode cX3_node 47 = .ok (.invokevirtual 74, 3) := by decide +kernel
theorem dX3_node_50 : decode cX3_node 50 = .ok (.ireturn, 1) := by decide +kernel
theorem dX3_number_0 : decode cX3_number 0 = .ok (.aload_n 0, 1) := by decide +kernel
theorem dX3_number_1 : decode cX3_number 1 = .ok (.getfield 22, 3) := by decide +kernel
theorem dX3_number_4 : decode cX3_number 4 = .ok (.iload_n 1, 1) := by decide +kernel
theorem dX3_number_5 : decode cX3_number 5 = .ok (.invokevirtual 67, 3) := by decide +kernel
theorem dX3_number_8 : decode cX3_number 8 = .ok (.ifCond .ne 13, 3) := by decide +kernel
theorem dX3_number_11 : decode cX3_number 11 = .ok (.new 48, 3) := by decide +kernel
theorem dX3_number_14 : decode cX3_number 14 = .ok (.dup, 1) := by decide +kernel
theorem dX3_number_15 : decode cX3_number 15 = .ok (.ldc 70, 2) := by decide +kernel
theorem dX3_number_17 : decode cX3_number 17 = .ok (.invokespecial 52, 3) := by decide +kernel
theorem dX3_number_20 : decode cX3_number 20 = .ok (.athrow, 1) := by decide +kernel
theorem dX3_number_21 : decode cX3_number 21 = .ok (.aload_n 0, 1) := by decide +kernel
theorem dX3_number_22 : decode cX3_number 22 = .ok (.getfield 22, 3) := by decide +kernel
theorem dX3_number_25 : decode cX3_number 25 = .ok (.iload_n 1, 1) := by decide +kernel
theorem dX3_number_26 : decode cX3_number 26 = .ok (.iconst 2, 1) := by decide +kernel
theorem dX3_number_27 : decode cX3_number 27 = .ok (.invokevirtual 74, 3) := by decide +kernel
theorem dX3_number_30 : decode cX3_number 30 = .ok (.iconst 1, 1) := by decide +kernel
theorem dX3_number_31 : decode cX3_number 31 = .ok (.if_icmp .ne 13, 3) := by decide +kernel
theorem dX3_number_34 : decode cX3_number 34 = .ok (.new 61, 3) := by decide +kernel
theorem dX3_number_37 : decode cX3_number 37 = .ok (.dup, 1) := by decide +kernel
theorem dX3_number_38 : decode cX3_number 38 = .ok (.ldc 78, 2) := by decide +kernel
theorem dX3_number_40 : decode cX3_number 40 = .ok (.invokespecial 65, 3) := by decide +kernel
theorem dX3_number_43 : decode cX3_number 43 = .ok (.athrow, 1) := by decide +kernel
theorem dX3_number_44 : decode cX3_number 44 = .ok (.aload_n 0, 1) := by decide +kernel
theorem dX3_number_45 : decode cX3_number 45 = .ok (.getfield 22, 3) := by decide +kernel
theorem dX3_number_48 : decode cX3_number 48 = .ok (.iload_n 1, 1) := by decide +kernel
theorem dX3_number_49 : decode cX3_number 49 = .ok (.invokevirtual 80, 3) := by decide +kernel
theorem dX3_number_52 : decode cX3_number 52 = .ok (.ifCond .ne 13, 3) := by decide +kernel
theorem dX3_number_55 : decode cX3_number 55 = .ok (.new 83, 3) := by decide +kernel
theorem dX3_number_58 : decode cX3_number 58 = .ok (.dup, 1) := by decide +kernel
theorem dX3_number_59 : decode cX3_number 59 = .ok (.ldc 85, 2) := by decide +kernel
theorem dX3_number_61 : decode cX3_number 61 = .ok (.invokespecial 87, 3) := by decide +kernel
theorem dX3_number_64 : decode cX3_number 64 = .ok (.athrow, 1) := by decide +kernel
theorem dX3_number_65 : decode cX3_number 65 = .ok (.aload_n 0, 1) := by decide +kernel
theorem dX3_number_66 : decode cX3_number 66 = .ok (.getfield 22, 3) := by decide +kernel
theorem dX3_number_69 : decode cX3_number 69 = .ok (.iload_n 1, 1) := by decide +kernel
theorem dX3_number_70 : decode cX3_number 70 = .ok (.invokevirtual 88, 3) := by decide +kernel
theorem dX3_number_73 : decode cX3_number 73 = .ok (.lreturn, 1) := by decide +kernel
theorem dX3_wrap_0 : decode cX3_wrap 0 = .ok (.iload_n 1, 1) := by decide +kernel
theorem dX3_wrap_1 : decode cX3_wrap 1 = .ok (.iload_n 2, 1) := by decide +kernel
theorem dX3_wrap_2 : decode cX3_wrap 2 = .ok (.invokestatic 92, 3) := by decide +kernel
theorem dX3_wrap_5 : decode cX3_wrap 5 = .ok (.ifCond .ne 13, 3) := by decide +kernel
theorem dX3_wrap_8 : decode cX3_wrap 8 = .ok (.new 48, 3) := by decide +kernel
theorem dX3_wrap_11 : decode cX3_wrap 11 = .ok (.dup, 1) := by decide +kernel
theorem dX3_wrap_12 : decode cX3_wrap 12 = .ok (.ldc 96, 2) := by decide +kernel
theorem dX3_wrap_14 : decode cX3_wrap 14 = .ok (.invokespecial 52, 3) := by decide +kernel
theorem dX3_wrap_17 : decode cX3_wrap 17 = .ok (.athrow, 1) := by decide +kernel
theorem dX3_wrap_18 : decode cX3_wrap 18 = .ok (.aload_n 0, 1) := by decide +kernel
theorem dX3_wrap_19 : decode cX3_wrap 19 = .ok (.getfield 16, 3) := by decide +kernel
theorem dX3_wrap_22 : decode cX3_wrap 22 = .ok (.iconst 0, 1) := by decide +kernel
theorem dX3_wrap_23 : decode cX3_wrap 23 = .ok (.invokevirtual 53, 3) := by decide +kernel
theorem dX3_wrap_26 : decode cX3_wrap 26 = .ok (.aload_n 0, 1) := by decide +kernel
theorem dX3_wrap_27 : decode cX3_wrap 27 = .ok (.iload_n 1, 1) := by decide +kernel
theorem dX3_wrap_28 : decode cX3_wrap 28 = .ok (.iload_n 2, 1) := by decide +kernel
theorem dX3_wrap_29 : decode cX3_wrap 29 = .ok (.iload_n 3, 1) := by decide +kernel
theorem dX3_wrap_30 : decode cX3_wrap 30 = .ok (.invokevirtual 98, 3) := by decide +kernel
theorem dX3_wrap_33 : decode cX3_wrap 33 = .ok (.aload_n 0, 1) := by decide +kernel
theorem dX3_wrap_34 : decode cX3_wrap 34 = .ok (.aload_n 0, 1) := by decide +kernel
theorem dX3_wrap_35 : decode cX3_wrap 35 = .ok (.getfield 12, 3) := by decide +kernel
theorem dX3_wrap_38 : decode cX3_wrap 38 = .ok (.invokevirtual 44, 3) := by decide +kernel
theorem dX3_wrap_41 : decode cX3_wrap 41 = .ok (.invokevirtual 102, 3) := by decide +kernel
theorem dX3_wrap_44 : decode cX3_wrap 44 = .ok (.aload_n 0, 1) := by decide +kernel
theorem dX3_wrap_45 : decode cX3_wrap 45 = .ok (.getfield 12, 3) := by decide +kernel
theorem dX3_wrap_48 : decode cX3_wrap 48 = .ok (.aload_n 0, 1) := by decide +kernel
theorem dX3_wrap_49 : decode cX3_wrap 49 = .ok (.getfield 16, 3) := by decide +kernel
theorem dX3_wrap_52 : decode cX3_wrap 52 = .ok (.invokevirtual 44, 3) := by decide +kernel
theorem dX3_wrap_55 : decode cX3_wrap 55 = .ok (.invokevirtual 29, 3) := by decide +kernel
theorem dX3_wrap_58 : decode cX3_wrap 58 = .ok (.ifCond .ne 13, 3) := by decide +kernel
theorem dX3_wrap_61 : decode cX3_wrap 61 = .ok (.new 33, 3) := by decide +kernel
theorem dX3_wrap_64 : decode cX3_wrap 64 = .ok (.dup, 1) := by decide +kernel
theorem dX3_wrap_65 : decode cX3_wrap 65 = .ok (.ldc 35, 2) := by decide +kernel
theorem dX3_wrap_67 : decode cX3_wrap 67 = .ok (.invokespecial 37, 3) := by decide +kernel
theorem dX3_wrap_70 : decode cX3_wrap 70 = .ok (.athrow, 1) := by decide +kernel
theorem dX3_wrap_71 : decode cX3_wrap 71 = .ok (.aload_n 0, 1) := by decide +kernel
theorem dX3_wrap_72 : decode cX3_wrap 72 = .ok (.getfield 12, 3) := by decide +kernel
theorem dX3_wrap_75 : decode cX3_wrap 75 = .ok (.aload_n 0, 1) := by decide +kernel
theorem dX3_wrap_76 : decode cX3_wrap 76 = .ok (.getfield 16, 3) := by decide +kernel
theorem dX3_wrap_79 : decode cX3_wrap 79 = .ok (.invokevirtual 105, 3) := by decide +kernel
theorem dX3_wrap_82 : decode cX3_wrap 82 = .ok (.aload_n 0, 1) := by decide +kernel
theorem dX3_wrap_83 : decode cX3_wrap 83 = .ok (.getfield 12, 3) := by decide +kernel
theorem dX3_wrap_86 : decode cX3_wrap 86 = .ok (.invokevirtual 44, 3) := by decide +kernel
theorem dX3_wrap_89 : decode cX3_wrap 89 = .ok (.ireturn, 1) := by decide +kernel
theorem dX3_isIdentifier_0 : decode cX3_isIdentifier 0 = .ok (.iload_n 0, 1) := by decide +kernel
theorem dX3_isIdentifier_1 : decode cX3_isIdentifier 1 = .ok (.ifCond .lt 16, 3) := by decide +kernel
theorem dX3_isIdentifier_4 : decode cX3_isIdentifier 4 = .ok (.iload_n 0, 1) := by decide +kernel
theorem dX3_isIdentifier_5 : decode cX3_isIdentifier 5 = .ok (.iconst 3, 1) := by decide +kernel
theorem dX3_isIdentifier_6 : decode cX3_isIdentifier 6 = .ok (.if_icmp .gt 11, 3) := by decide +kernel
theorem dX3_isIdentifier_9 : decode cX3_isIdentifier 9 = .ok (.iload_n 1, 1) := by decide +kernel
theorem dX3_isIdentifier_10 : decode cX3_isIdentifier 10 = .ok (.ifCond .lt 7, 3) := by decide +kernel
theorem dX3_isIdentifier_13 : decode cX3_isIdentifier 13 = .ok (.iconst 1, 1) := by decide +kernel
theorem dX3_isIdentifier_14 : decode cX3_isIdentifier 14 = .ok (.goto 4, 3) := by decide +kernel
theorem dX3_isIdentifier_17 : decode cX3_isIdentifier 17 = .ok (.iconst 0, 1) := by decide +kernel
theorem dX3_isIdentifier_18 : decode cX3_isIdentifier 18 = .ok (.ireturn, 1) := by decide +kernel
theorem dX3_writeIdentifier_0 : decode cX3_writeIdentifier 0 = .ok (.iload_n 1, 1) := by decide +kernel
theorem dX3_writeIdentifier_1 : decode cX3_writeIdentifier 1 = .ok (.bipush 64, 2) := by decide +kernel
theorem dX3_writeIdentifier_3 : decode cX3_writeIdentifier 3 = .ok (.imul, 1) := by decide +kernel
theorem dX3_writeIdentifier_4 : decode cX3_writeIdentifier 4 = .ok (.iload_n 3, 1) := by decide +kernel
theorem dX3_writeIdentifier_5 : decode cX3_writeIdentifier 5 = .ok (.ifCond .eq 8, 3) := by decide +kernel
theorem dX3_writeIdentifier_8 : decode cX3_writeIdentifier 8 = .ok (.bipush 32, 2) := by decide +kernel
theorem dX3_writeIdentifier_10 : decode cX3_writeIdentifier 10 = .ok (.goto 4, 3) := by decide +kernel
theorem dX3_writeIdentifier_13 : decode cX3_writeIdentifier 13 = .ok (.iconst 0, 1) := by decide +kernel
theorem dX3_writeIdentifier_14 : decode cX3_writeIdentifier 14 = .ok (.iadd, 1) := by decide +kernel
theorem dX3_writeIdentifier_15 : decode cX3_writeIdentifier 15 = .ok (.istore 4, 2) := by decide +kernel
theorem dX3_writeIdentifier_17 : decode cX3_writeIdentifier 17 = .ok (.iload_n 2, 1) := by decide +kernel
theorem dX3_writeIdentifier_18 : decode cX3_writeIdentifier 18 = .ok (.bipush 31, 2) := by decide +kernel
theorem dX3_writeIdentifier_20 : decode cX3_writeIdentifier 20 = .ok (.if_icmp .ge 15, 3) := by decide +kernel
theorem dX3_writeIdentifier_23 : decode cX3_writeIdentifier 23 = .ok (.aload_n 0, 1) := by decide +kernel
theorem dX3_writeIdentifier_24 : decode cX3_writeIdentifier 24 = .ok (.getfield 16, 3) := by decide +kernel
theorem dX3_writeIdentifier_27 : decode cX3_writeIdentifier 27 = .ok (.iload 4, 2) := by decide +kernel
theorem dX3_writeIdentifier_29 : decode cX3_writeIdentifier 29 = .ok (.iload_n 2, 1) := by decide +kernel
theorem dX3_writeIdentifier_30 : decode cX3_writeIdentifier 30 = .ok (.iadd, 1) := by decide +kernel
theorem dX3_writeIdentifier_31 : decode cX3_writeIdentifier 31 = .ok (.invokevirtual 127, 3) := by decide +kernel
theorem dX3_writeIdentifier_34 : decode cX3_writeIdentifier 34 = .ok (.return_, 1) := by decide +kernel
theorem dX3_writeIdentifier_35 : decode cX3_writeIdentifier 35 = .ok (.aload_n 0, 1) := by decide +kernel
theorem dX3_writeIdentifier_36 : decode cX3_writeIdentifier 36 = .ok (.getfield 16, 3) := by decide +kernel
theorem dX3_writeIdentifier_39 : decode cX3_writeIdentifier 39 = .ok (.iload 4, 2) := by decide +kernel
theorem dX3_writeIdentifier_41 : decode cX3_writeIdentifier 41 = .ok (.bipush 31, 2) := by decide +kernel
theorem dX3_writeIdentifier_43 : decode cX3_writeIdentifier 43 = .ok (.iadd, 1) := by decide +kernel
theorem dX3_writeIdentifier_44 : decode cX3_writeIdentifier 44 = .ok (.invokevirtual 127, 3) := by decide +kernel
theorem dX3_writeIdentifier_47 : decode cX3_writeIdentifier 47 = .ok (.bipush 28, 2) := by decide +kernel
theorem dX3_writeIdentifier_49 : decode cX3_writeIdentifier 49 = .ok (.istore 5, 2) := by decide +kernel
theorem dX3_writeIdentifier_51 : decode cX3_writeIdentifier 51 = .ok (.iload 5, 2) := by decide +kernel
theorem dX3_writeIdentifier_53 : decode cX3_writeIdentifier 53 = .ok (.bipush 7, 2) := by decide +kernel
theorem dX3_writeIdentifier_55 : decode cX3_writeIdentifier 55 = .ok (.if_icmp .lt 34, 3) := by decide +kernel
theorem dX3_writeIdentifier_58 : decode cX3_writeIdentifier 58 = .ok (.iload_n 2, 1) := by decide +kernel
theorem dX3_writeIdentifier_59 : decode cX3_writeIdentifier 59 = .ok (.iload 5, 2) := by decide +kernel
theorem dX3_writeIdentifier_61 : decode cX3_writeIdentifier 61 = .ok (.ishr, 1) := by decide +kernel
theorem dX3_writeIdentifier_62 : decode cX3_writeIdentifier 62 = .ok (.ifCond .eq 21, 3) := by decide +kernel
theorem dX3_writeIdentifier_65 : decode cX3_writeIdentifier 65 = .ok (.aload_n 0, 1) := by decide +kernel
theorem dX3_writeIdentifier_66 : decode cX3_writeIdentifier 66 = .ok (.getfield 16, 3) := by decide +kernel
theorem dX3_writeIdentifier_69 : decode cX3_writeIdentifier 69 = .ok (.sipush 128, 3) := by decide +kernel
theorem dX3_writeIdentifier_72 : decode cX3_writeIdentifier 72 = .ok (.iload_n 2, 1) := by decide +kernel
theorem dX3_writeIdentifier_73 : decode cX3_writeIdentifier 73 = .ok (.iload 5, 2) := by decide +kernel
theorem dX3_writeIdentifier_75 : decode cX3_writeIdentifier 75 = .ok (.ishr, 1) := by decide +kernel
theorem dX3_writeIdentifier_76 : decode cX3_writeIdentifier 76 = .ok (.bipush 127, 2) := by decide +kernel
theorem dX3_writeIdentifier_78 : decode cX3_writeIdentifier 78 = .ok (.iand, 1) := by decide +kernel
theorem dX3_writeIdentifier_79 : decode cX3_writeIdentifier 79 = .ok (.iadd, 1) := by decide +kernel
theorem dX3_writeIdentifier_80 : decode cX3_writeIdentifier 80 = .ok (.invokevirtual 127, 3) := by decide +kernel
theorem dX3_writeIdentifier_83 : decode cX3_writeIdentifier 83 = .ok (.iinc 5 (-7), 3) := by decide +kernel
theorem dX3_writeIdentifier_86 : decode cX3_writeIdentifier 86 = .ok (.goto (-35), 3) := by decide +kernel
theorem dX3_writeIdentifier_89 : decode cX3_writeIdentifier 89 = .ok (.aload_n 0, 1) := by decide +kernel
theorem dX3_writeIdentifier_90 : decode cX3_writeIdentifier 90 = .ok (.getfield 16, 3) := by decide +kernel
theorem dX3_writeIdentifier_93 : decode cX3_writeIdentifier 93 = .ok (.iload_n 2, 1) := by decide +kernel
theorem dX3_writeIdentifier_94 : decode cX3_writeIdentifier 94 = .ok (.bipush 127, 2) := by decide +kernel
theorem dX3_writeIdentifier_96 : decode cX3_writeIdentifier 96 = .ok (.iand, 1) := by decide +kernel
theorem dX3_writeIdentifier_97 : decode cX3_writeIdentifier 97 = .ok (.invokevirtual 127, 3) := by decide +kernel
theorem dX3_writeIdentifier_100 : decode cX3_writeIdentifier 100 = .ok (.return_, 1) := by decide +kernel
theorem dX3_writeLength_0 : decode cX3_writeLength 0 = .ok (.iload_n 1, 1) := by decide +kernel
theorem dX3_writeLength_1 : decode cX3_writeLength 1 = .ok (.sipush 128, 3) := by decide +kernel
theorem dX3_writeLength_4 : decode cX3_writeLength 4 = .ok (.if_icmp .ge 14, 3) := by decide +kernel
theorem dX3_writeLength_7 : decode cX3_writeLength 7 = .ok (.aload_n 0, 1) := by decide +kernel
theorem dX3_writeLength_8 : decode cX3_writeLength 8 = .ok (.getfield 16, 3) := by decide +kernel
theorem dX3_writeLength_11 : decode cX3_writeLength 11 = .ok (.iload_n 1, 1) := by decide +kernel
theorem dX3_writeLength_12 : decode cX3_writeLength 12 = .ok (.invokevirtual 127, 3) := by decide +kernel
theorem dX3_writeLength_15 : decode cX3_writeLength 15 = .ok (.goto 51, 3) := by decide +kernel
theorem dX3_writeLength_18 : decode cX3_writeLength 18 = .ok (.iload_n 1, 1) := by decide +kernel
theorem dX3_writeLength_19 : decode cX3_writeLength 19 = .ok (.sipush 256, 3) := by decide +kernel
theorem dX3_writeLength_22 : decode cX3_writeLength 22 = .ok (.if_icmp .ge 24, 3) := by decide +kernel
theorem dX3_writeLength_25 : decode cX3_writeLength 25 = .ok (.aload_n 0, 1) := by decide +kernel
theorem dX3_writeLength_26 : decode cX3_writeLength 26 = .ok (.getfield 16, 3) := by decide +kernel
theorem dX3_writeLength_29 : decode cX3_writeLength 29 = .ok (.sipush 129, 3) := by decide +kernel
theorem dX3_writeLength_32 : decode cX3_writeLength 32 = .ok (.invokevirtual 127, 3) := by decide +kernel
theorem dX3_writeLength_35 : decode cX3_writeLength 35 = .ok (.aload_n 0, 1) := by decide +kernel
theorem dX3_writeLength_36 : decode cX3_writeLength 36 = .ok (.getfield 16, 3) := by decide +kernel
theorem dX3_writeLength_39 : decode cX3_writeLength 39 = .ok (.iload_n 1, 1) := by decide +kernel
theorem dX3_writeLength_40 : decode cX3_writeLength 40 = .ok (.invokevirtual 127, 3) := by decide +kernel
theorem dX3_writeLength_43 : decode cX3_writeLength 43 = .ok (.goto 23, 3) := by decide +kernel
theorem dX3_writeLength_46 : decode cX3_writeLength 46 = .ok (.aload_n 0, 1) := by decide +kernel
theorem dX3_writeLength_47 : decode cX3_writeLength 47 = .ok (.getfield 16, 3) := by decide +kernel
theorem dX3_writeLength_50 : decode cX3_writeLength 50 = .ok (.sipush 130, 3) := by decide +kernel
theorem dX3_writeLength_53 : decode cX3_writeLength 53 = .ok (.invokevirtual 127, 3) := by decide +kernel
theorem dX3_writeLength_56 : decode cX3_writeLength 56 = .ok (.aload_n 0, 1) := by decide +kernel
theorem dX3_writeLength_57 : decode cX3_writeLength 57 = .ok (.getfield 16, 3) := by decide +kernel
theorem dX3_writeLength_60 : decode cX3_writeLength 60 = .ok (.iload_n 1, 1) := by decide +kernel
theorem dX3_writeLength_61 : decode cX3_writeLength 61 = .ok (.i2l, 1) := by decide +kernel
theorem dX3_writeLength_62 : decode cX3_writeLength 62 = .ok (.iconst 2, 1) := by decide +kernel
theorem dX3_writeLength_63 : decode cX3_writeLength 63 = .ok (.invokevirtual 40, 3) := by decide +kernel
theorem dX3_writeLength_66 : decode cX3_writeLength 66 = .ok (.return_, 1) := by decide +kernel
theorem dX3_add_0 : decode cX3_add 0 = .ok (.iload_n 1, 1) := by decide +kernel
theorem dX3_add_1 : decode cX3_add 1 = .ok (.iload_n 2, 1) := by decide +kernel
theorem dX3_add_2 : decode cX3_add 2 = .ok (.invokestatic 92, 3) := by decide +kernel
theorem dX3_add_5 : decode cX3_add 5 = .ok (.ifCond .ne 13, 3) := by decide +kernel
theorem dX3_add_8 : decode cX3_add 8 = .ok (.new 48, 3) := by decide +kernel
theorem dX3_add_11 : decode cX3_add 11 = .ok (.dup, 1) := by decide +kernel
theorem dX3_add_12 : decode cX3_add 12 = .ok (.ldc 96, 2) := by decide +kernel
theorem dX3_add_14 : decode cX3_add 14 = .ok (.invokespecial 52, 3) := by decide +kernel
theorem dX3_add_17 : decode cX3_add 17 = .ok (.athrow, 1) := by decide +kernel
theorem dX3_add_18 : decode cX3_add 18 = .ok (.lload_n 3, 1) := by decide +kernel
theorem dX3_add_19 : decode cX3_add 19 = .ok (.invokestatic 109, 3) := by decide +kernel
theorem dX3_add_22 : decode cX3_add 22 = .ok (.istore 5, 2) := by decide +kernel
theorem dX3_add_24 : decode cX3_add 24 = .ok (.aload_n 0, 1) := by decide +kernel
theorem dX3_add_25 : decode cX3_add 25 = .ok (.getfield 16, 3) := by decide +kernel
theorem dX3_add_28 : decode cX3_add 28 = .ok (.iconst 0, 1) := by decide +kernel
theorem dX3_add_29 : decode cX3_add 29 = .ok (.invokevirtual 53, 3) := by decide +kernel
theorem dX3_add_32 : decode cX3_add 32 = .ok (.aload_n 0, 1) := by decide +kernel
theorem dX3_add_33 : decode cX3_add 33 = .ok (.iload_n 1, 1) := by decide +kernel
theorem dX3_add_34 : decode cX3_add 34 = .ok (.iload_n 2, 1) := by decide +kernel
theorem dX3_add_35 : decode cX3_add 35 = .ok (.iconst 0, 1) := by decide +kernel
theorem dX3_add_36 : decode cX3_add 36 = .ok (.invokevirtual 98, 3) := by decide +kernel
theorem dX3_add_39 : decode cX3_add 39 = .ok (.aload_n 0, 1) := by decide +kernel
theorem dX3_add_40 : decode cX3_add 40 = .ok (.iload 5, 2) := by decide +kernel
theorem dX3_add_42 : decode cX3_add 42 = .ok (.invokevirtual 102, 3) := by decide +kernel
theorem dX3_add_45 : decode cX3_add 45 = .ok (.aload_n 0, 1) := by decide +kernel
theorem dX3_add_46 : decode cX3_add 46 = .ok (.getfield 16, 3) := by decide +kernel
theorem dX3_add_49 : decode cX3_add 49 = .ok (.lload_n 3, 1) := by decide +kernel
theorem dX3_add_50 : decode cX3_add 50 = .ok (.iload 5, 2) := by decide +kernel
theorem dX3_add_52 : decode cX3_add 52 = .ok (.invokevirtual 40, 3) := by decide +kernel
theorem dX3_add_55 : decode cX3_add 55 = .ok (.aload_n 0, 1) := by decide +kernel
theorem dX3_add_56 : decode cX3_add 56 = .ok (.getfield 12, 3) := by decide +kernel
theorem dX3_add_59 : decode cX3_add 59 = .ok (.aload_n 0, 1) := by decide +kernel
theorem dX3_add_60 : decode cX3_add 60 = .ok (.getfield 16, 3) := by decide +kernel
theorem dX3_add_63 : decode cX3_add 63 = .ok (.invokevirtual 44, 3) := by decide +kernel
theorem dX3_add_66 : decode cX3_add 66 = .ok (.invokevirtual 29, 3) := by decide +kernel
theorem dX3_add_69 : decode cX3_add 69 = .ok (.ifCond .ne 13, 3) := by decide +kernel
theorem dX3_add_72 : decode cX3_add 72 = .ok (.new 33, 3) := by decide +kernel
theorem dX3_add_75 : decode cX3_add 75 = .ok (.dup, 1) := by decide +kernel
theorem dX3_add_76 : decode cX3_add 76 = .ok (.ldc 35, 2) := by decide +kernel
theorem dX3_add_78 : decode cX3_add 78 = .ok (.invokespecial 37, 3) := by decide +kernel
theorem dX3_add_81 : decode cX3_add 81 = .ok (.athrow, 1) := by decide +kernel
theorem dX3_add_82 : decode cX3_add 82 = .ok (.aload_n 0, 1) := by decide +kernel
theorem dX3_add_83 : decode cX3_add 83 = .ok (.getfield 12, 3) := by decide +kernel
theorem dX3_add_86 : decode cX3_add 86 = .ok (.aload_n 0, 1) := by decide +kernel
theorem dX3_add_87 : decode cX3_add 87 = .ok (.getfield 16, 3) := by decide +kernel
theorem dX3_add_90 : decode cX3_add 90 = .ok (.invokevirtual 113, 3) := by decide +kernel
theorem dX3_add_93 : decode cX3_add 93 = .ok (.aload_n 0, 1) := by decide +kernel
theorem dX3_add_94 : decode cX3_add 94 = .ok (.getfield 12, 3) := by decide +kernel
theorem dX3_add_97 : decode cX3_add 97 = .ok (.invokevirtual 44, 3) := by decide +kernel
theorem dX3_add_100 : decode cX3_add 100 = .ok (.ireturn, 1) := by decide +kernel
theorem dX3_fewestBytes_0 : decode cX3_fewestBytes 0 = .ok (.iconst 1, 1) := by decide +kernel
theorem dX3_fewestBytes_1 : decode cX3_fewestBytes 1 = .ok (.istore_n 2, 1) := by decide +kernel
theorem dX3_fewestBytes_2 : decode cX3_fewestBytes 2 = .ok (.iload_n 2, 1) := by decide +kernel
theorem dX3_fewestBytes_3 : decode cX3_fewestBytes 3 = .ok (.bipush 8, 2) := by decide +kernel
theorem dX3_fewestBytes_5 : decode cX3_fewestBytes 5 = .ok (.if_icmp .ge 34, 3) := by decide +kernel
theorem dX3_fewestBytes_8 : decode cX3_fewestBytes 8 = .ok (.lload_n 0, 1) := by decide +kernel
theorem dX3_fewestBytes_9 : decode cX3_fewestBytes 9 = .ok (.bipush 8, 2) := by decide +kernel
theorem dX3_fewestBytes_11 : decode cX3_fewestBytes 11 = .ok (.iload_n 2, 1) := by decide +kernel
theorem dX3_fewestBytes_12 : decode cX3_fewestBytes 12 = .ok (.imul, 1) := by decide +kernel
theorem dX3_fewestBytes_13 : decode cX3_fewestBytes 13 = .ok (.iconst 1, 1) := by decide +kernel
theorem dX3_fewestBytes_14 : decode cX3_fewestBytes 14 = .ok (.isub, 1) := by decide +kernel
theorem dX3_fewestBytes_15 : decode cX3_fewestBytes 15 = .ok (.lshr, 1) := by decide +kernel
theorem dX3_fewestBytes_16 : decode cX3_fewestBytes 16 = .ok (.lstore_n 3, 1) := by decide +kernel
theorem dX3_fewestBytes_17 : decode cX3_fewestBytes 17 = .ok (.lload_n 3, 1) := by decide +kernel
theorem dX3_fewestBytes_18 : decode cX3_fewestBytes 18 = .ok (.lconst 0, 1) := by decide +kernel
theorem dX3_fewestBytes_19 : decode cX3_fewestBytes 19 = .ok (.lcmp, 1) := by decide +kernel
theorem dX3_fewestBytes_20 : decode cX3_fewestBytes 20 = .ok (.ifCond .eq 11, 3) := by decide +kernel
theorem dX3_fewestBytes_23 : decode cX3_fewestBytes 23 = .ok (.lload_n 3, 1) := by decide +kernel
theorem dX3_fewestBytes_24 : decode cX3_fewestBytes 24 = .ok (.ldc2_w 130, 3) := by decide +kernel
theorem dX3_fewestBytes_27 : decode cX3_fewestBytes 27 = .ok (.lcmp, 1) := by decide +kernel
theorem dX3_fewestBytes_28 : decode cX3_fewestBytes 28 = .ok (.ifCond .ne 5, 3) := by decide +kernel
theorem dX3_fewestBytes_31 : decode cX3_fewestBytes 31 = .ok (.iload_n 2, 1) := by decide +kernel
theorem dX3_fewestBytes_32 : decode cX3_fewestBytes 32 = .ok (.ireturn, 1) := by decide +kernel
theorem dX3_fewestBytes_33 : decode cX3_fewestBytes 33 = .ok (.iinc 2 1, 3) := by decide +kernel
theorem dX3_fewestBytes_36 : decode cX3_fewestBytes 36 = .ok (.goto (-34), 3) := by decide +kernel
theorem dX3_fewestBytes_39 : decode cX3_fewestBytes 39 = .ok (.bipush 8, 2) := by decide +kernel
theorem dX3_fewestBytes_41 : decode cX3_fewestBytes 41 = .ok (.ireturn, 1) := by decide +kernel
theorem dX3_compare_0 : decode cX3_compare 0 = .ok (.aload_n 0, 1) := by decide +kernel
theorem dX3_compare_1 : decode cX3_compare 1 = .ok (.getfield 22, 3) := by decide +kernel
theorem dX3_compare_4 : decode cX3_compare 4 = .ok (.iload_n 1, 1) := by decide +kernel
theorem dX3_compare_5 : decode cX3_compare 5 = .ok (.invokevirtual 67, 3) := by decide +kernel
theorem dX3_compare_8 : decode cX3_compare 8 = .ok (.ifCond .eq 14, 3) := by decide +kernel
theorem dX3_compare_11 : decode cX3_compare 11 = .ok (.aload_n 0, 1) := by decide +kernel
theorem dX3_compare_12 : decode cX3_compare 12 = .ok (.getfield 22, 3) := by decide +kernel
theorem dX3_compare_15 : decode cX3_compare 15 = .ok (.iload_n 2, 1) := by decide +kernel
theorem dX3_compare_16 : decode cX3_compare 16 = .ok (.invokevirtual 67, 3) := by decide +kernel
theorem dX3_compare_19 : decode cX3_compare 19 = .ok (.ifCond .ne 13, 3) := by decide +kernel
theorem dX3_compare_22 : decode cX3_compare 22 = .ok (.new 48, 3) := by decide +kernel
theorem dX3_compare_25 : decode cX3_compare 25 = .ok (.dup, 1) := by decide +kernel
theorem dX3_compare_26 : decode cX3_compare 26 = .ok (.ldc 70, 2) := by decide +kernel
theorem dX3_compare_28 : decode cX3_compare 28 = .ok (.invokespecial 52, 3) := by decide +kernel
theorem dX3_compare_31 : decode cX3_compare 31 = .ok (.athrow, 1) := by decide +kernel
theorem dX3_compare_32 : decode cX3_compare 32 = .ok (.aload_n 0, 1) := by decide +kernel
theorem dX3_compare_33 : decode cX3_compare 33 = .ok (.getfield 22, 3) := by decide +kernel
theorem dX3_compare_36 : decode cX3_compare 36 = .ok (.iload_n 1, 1) := by decide +kernel
theorem dX3_compare_37 : decode cX3_compare 37 = .ok (.iload_n 2, 1) := by decide +kernel
theorem dX3_compare_38 : decode cX3_compare 38 = .ok (.invokevirtual 116, 3) := by decide +kernel
theorem dX3_compare_41 : decode cX3_compare 41 = .ok (.ireturn, 1) := by decide +kernel
theorem dX3_count_0 : decode cX3_count 0 = .ok (.iload_n 1, 1) := by decide +kernel
theorem dX3_count_1 : decode cX3_count 1 = .ok (.ifCond .lt 8, 3) := by decide +kernel
theorem dX3_count_4 : decode cX3_count 4 = .ok (.iload_n 1, 1) := by decide +kernel
theorem dX3_count_5 : decode cX3_count 5 = .ok (.iconst 1, 1) := by decide +kernel
theorem dX3_count_6 : decode cX3_count 6 = .ok (.if_icmp .le 13, 3) := by decide +kernel
theorem dX3_count_9 : decode cX3_count 9 = .ok (.new 48, 3) := by decide +kernel
theorem dX3_count_12 : decode cX3_count 12 = .ok (.dup, 1) := by decide +kernel
theorem dX3_count_13 : decode cX3_count 13 = .ok (.ldc 119, 2) := by decide +kernel
theorem dX3_count_15 : decode cX3_count 15 = .ok (.invokespecial 52, 3) := by decide +kernel
theorem dX3_count_18 : decode cX3_count 18 = .ok (.athrow, 1) := by decide +kernel
theorem dX3_count_19 : decode cX3_count 19 = .ok (.iload_n 1, 1) := by decide +kernel
theorem dX3_count_20 : decode cX3_count 20 = .ok (.ifCond .ne 13, 3) := by decide +kernel
theorem dX3_count_23 : decode cX3_count 23 = .ok (.aload_n 0, 1) := by decide +kernel
theorem dX3_count_24 : decode cX3_count 24 = .ok (.getfield 12, 3) := by decide +kernel
theorem dX3_count_27 : decode cX3_count 27 = .ok (.invokevirtual 44, 3) := by decide +kernel
theorem dX3_count_30 : decode cX3_count 30 = .ok (.goto 10, 3) := by decide +kernel
theorem dX3_count_33 : decode cX3_count 33 = .ok (.aload_n 0, 1) := by decide +kernel
theorem dX3_count_34 : decode cX3_count 34 = .ok (.getfield 22, 3) := by decide +kernel
theorem dX3_count_37 : decode cX3_count 37 = .ok (.invokevirtual 66, 3) := by decide +kernel
theorem dX3_count_40 : decode cX3_count 40 = .ok (.ireturn, 1) := by decide +kernel
theorem dX3_word_0 : decode cX3_word 0 = .ok (.iload_n 1, 1) := by decide +kernel
theorem dX3_word_1 : decode cX3_word 1 = .ok (.ifCond .lt 14, 3) := by decide +kernel
theorem dX3_word_4 : decode cX3_word 4 = .ok (.iload_n 1, 1) := by decide +kernel
theorem dX3_word_5 : decode cX3_word 5 = .ok (.aload_n 0, 1) := by decide +kernel
theorem dX3_word_6 : decode cX3_word 6 = .ok (.getfield 12, 3) := by decide +kernel
theorem dX3_word_9 : decode cX3_word 9 = .ok (.invokevirtual 44, 3) := by decide +kernel
theorem dX3_word_12 : decode cX3_word 12 = .ok (.if_icmp .lt 13, 3) := by decide +kernel
theorem dX3_word_15 : decode cX3_word 15 = .ok (.new 33, 3) := by decide +kernel
theorem dX3_word_18 : decode cX3_word 18 = .ok (.dup, 1) := by decide +kernel
theorem dX3_word_19 : decode cX3_word 19 = .ok (.ldc 121, 2) := by decide +kernel
theorem dX3_word_21 : decode cX3_word 21 = .ok (.invokespecial 37, 3) := by decide +kernel
theorem dX3_word_24 : decode cX3_word 24 = .ok (.athrow, 1) := by decide +kernel
theorem dX3_word_25 : decode cX3_word 25 = .ok (.lconst 0, 1) := by decide +kernel
theorem dX3_word_26 : decode cX3_word 26 = .ok (.lstore_n 2, 1) := by decide +kernel
theorem dX3_word_27 : decode cX3_word 27 = .ok (.iconst 0, 1) := by decide +kernel
theorem dX3_word_28 : decode cX3_word 28 = .ok (.istore 4, 2) := by decide +kernel
theorem dX3_word_30 : decode cX3_word 30 = .ok (.iload 4, 2) := by decide +kernel
theorem dX3_word_32 : decode cX3_word 32 = .ok (.bipush 8, 2) := by decide +kernel
theorem dX3_word_34 : decode cX3_word 34 = .ok (.if_icmp .ge 27, 3) := by decide +kernel
theorem dX3_word_37 : decode cX3_word 37 = .ok (.lload_n 2, 1) := by decide +kernel
theorem dX3_word_38 : decode cX3_word 38 = .ok (.bipush 8, 2) := by decide +kernel
theorem dX3_word_40 : decode cX3_word 40 = .ok (.lshl, 1) := by decide +kernel
theorem dX3_word_41 : decode cX3_word 41 = .ok (.aload_n 0, 1) := by decide +kernel
theorem dX3_word_42 : decode cX3_word 42 = .ok (.getfield 12, 3) := by decide +kernel
theorem dX3_word_45 : decode cX3_word 45 = .ok (.iload_n 1, 1) := by decide +kernel
theorem dX3_word_46 : decode cX3_word 46 = .ok (.iload 4, 2) := by decide +kernel
theorem dX3_word_48 : decode cX3_word 48 = .ok (.iadd, 1) := by decide +kernel
theorem dX3_word_49 : decode cX3_word 49 = .ok (.invokevirtual 123, 3) := by decide +kernel
theorem dX3_word_52 : decode cX3_word 52 = .ok (.i2l, 1) := by decide +kernel
theorem dX3_word_53 : decode cX3_word 53 = .ok (.lor, 1) := by decide +kernel
theorem dX3_word_54 : decode cX3_word 54 = .ok (.lstore_n 2, 1) := by decide +kernel
theorem dX3_word_55 : decode cX3_word 55 = .ok (.iinc 4 1, 3) := by decide +kernel
theorem dX3_word_58 : decode cX3_word 58 = .ok (.goto (-28), 3) := by decide +kernel
theorem dX3_word_61 : decode cX3_word 61 = .ok (.lload_n 2, 1) := by decide +kernel
theorem dX3_word_62 : decode cX3_word 62 = .ok (.lreturn, 1) := by decide +kernel
end
section
/-! what the header of a value is: g the bytes, i the place, x where they end -/
def stp (a b : Int) : Int := if 2147483647 < a then a else a * 128 + b % 128
def lnum (g : Int → Int) : Nat → Int → Int → Option (Int × Int)
  | 0, _, _ => none
  | f + 1, i, a => if g i < 128 then some (stp a (g i), i + 1) else lnum g f (i + 1) (stp a (g i))
def lgn (g : Int → Int) (i x : Int) : Option (Int × Int) :=
  if g i % 128 = 0 then none else
    match lnum g (x - i).toNat i 0 with
    | none => none
    | some (a, j) => if a < 31 then none else some (if 2147483647 < a then -1 else a, j)
theorem stp_hi {a b : Int} (h : 2147483647 < a) : stp a b = a := if_pos h
theorem stp_lo {a b : Int} (h : a ≤ 2147483647) : stp a b = a * 128 + b % 128 := if_neg (by omega)
theorem lnum_no {g : Int → Int} {j x a : Int} (h : x ≤ j) : lnum g (x - j).toNat j a = none := by
  rw [show (x - j).toNat = 0 by omega]; rfl
theorem lnum_go {g : Int → Int} {j x a y : Int} (h : j < x) (hg : 128 ≤ g j) (hy : y = stp a (g j)) : lnum g (x - j).toNat j a = lnum g (x - (j + 1)).toNat (j + 1) y := by
  rw [show (x - j).toNat = (x - (j + 1)).toNat + 1 by omega, hy]
  show (if g j < 128 then _ else _) = _
  rw [if_neg (by omega)]
theorem lnum_end {g : Int → Int} {j x a y : Int} (h : j < x) (hg : g j < 128) (hy : y = stp a (g j)) : lnum g (x - j).toNat j a = some (y, j + 1) := by
  rw [show (x - j).toNat = (x - (j + 1)).toNat + 1 by omega, hy]
  show (if g j < 128 then _ else _) = _
  rw [if_pos hg]
theorem lgn_0 {g : Int → Int} {i x : Int} (h : g i % 128 = 0) : lgn g i x = none := if_pos h
theorem lgn_no {g : Int → Int} {i x : Int} (h : ¬ g i % 128 = 0) (hn : lnum g (x - i).toNat i 0 = none) : lgn g i x = none := by
  unfold lgn; rw [if_neg h, hn]
theorem lgn_lo {g : Int → Int} {i x a j : Int} (h : ¬ g i % 128 = 0) (hn : lnum g (x - i).toNat i 0 = some (a, j)) (ha : a < 31) : lgn g i x = none := by
  unfold lgn; rw [if_neg h, hn]; exact if_pos ha
theorem lgn_hi {g : Int → Int} {i x a j y : Int} (h : ¬ g i % 128 = 0) (hn : lnum g (x - i).toNat i 0 = some (a, j)) (ha : 31 ≤ a) (hy : y = if 2147483647 < a then -1 else a) : lgn g i x = some (y, j) := by
  unfold lgn; rw [if_neg h, hn, hy]; exact if_neg (by omega)
def idn (g : Int → Int) (i x : Int) : Option (Int × Int × Int × Int) :=
  if x ≤ i then none else if g i % 32 < 31 then some (g i / 64, g i / 32 % 2, g i % 32, i + 1) else
    match lgn g (i + 1) x with
    | none => none
    | some (tg, j) => some (g i / 64, g i / 32 % 2, tg, j)
def llen (g : Int → Int) : Nat → Int → Int → Int
  | 0, _, a => a
  | f + 1, i, a => llen g f (i + 1) (if 4096 < a then a else a * 256 + g i)
def dll (g : Int → Int) (m i x st : Int) : Option Int :=
  if x - i < m then none else if st = 1 ∧ (g i = 0 ∨ llen g m.toNat i 0 < 128) then none else some (llen g m.toNat i 0)
/-- class, constructed, number, whether its length is 128 alone, its size if known, where its contents begin -/
def hdr (g : Int → Int) (st i x : Int) : Option (Int × Int × Int × Int × Int × Int) :=
  match idn g i x with
  | none => none
  | some (kd, cs, tg, j) =>
    if x ≤ j then none else
    if g j = 128 then (if cs = 1 ∧ st = 0 then some (kd, cs, tg, 1, 0, j + 1) else none) else
    if g j < 128 then (if g j ≤ x - (j + 1) then some (kd, cs, tg, 0, g j, j + 1) else none) else
    match dll g (g j - 128) (j + 1) x st with
    | none => none
    | some s => if s ≤ x - (j + 1 + (g j - 128)) then some (kd, cs, tg, 0, s, j + 1 + (g j - 128)) else none
theorem idn_0 {g : Int → Int} {i x : Int} (h : x ≤ i) : idn g i x = none := if_pos h
theorem idn_s {g : Int → Int} {i x kd cs tg : Int} (h : i < x) (h2 : g i % 32 < 31) (e1 : kd = g i / 64) (e2 : cs = g i / 32 % 2) (e3 : tg = g i % 32) : idn g i x = some (kd, cs, tg, i + 1) := by
  unfold idn; rw [if_neg (by omega), if_pos h2, e1, e2, e3]
theorem idn_l0 {g : Int → Int} {i x : Int} (h : i < x) (h2 : 31 ≤ g i % 32) (h3 : lgn g (i + 1) x = none) : idn g i x = none := by
  unfold idn; rw [if_neg (by omega), if_neg (by omega), h3]
theorem idn_l1 {g : Int → Int} {i x kd cs tg j : Int} (h : i < x) (h2 : 31 ≤ g i % 32) (h3 : lgn g (i + 1) x = some (tg, j)) (e1 : kd = g i / 64) (e2 : cs = g i / 32 % 2) : idn g i x = some (kd, cs, tg, j) := by
  unfold idn; rw [if_neg (by omega), if_neg (by omega), h3, e1, e2]
theorem llen_s {g : Int → Int} {m j ct a y : Int} (h : j < m) (hy : y = if 4096 < a then a else a * 256 + g (ct + j)) : llen g (m - j).toNat (ct + j) a = llen g (m - (j + 1)).toNat (ct + (j + 1)) y := by
  rw [show (m - j).toNat = (m - (j + 1)).toNat + 1 by omega, hy, show ct + (j + 1) = ct + j + 1 by omega]
  rfl
theorem llen_e {g : Int → Int} {m j i a : Int} (h : m ≤ j) : llen g (m - j).toNat i a = a := by
  rw [show (m - j).toNat = 0 by omega]; rfl
theorem dll_0 {g : Int → Int} {m i x st : Int} (h : x - i < m) : dll g m i x st = none := if_pos h
theorem dll_1 {g : Int → Int} {m i x st s : Int} (h : m ≤ x - i) (hs : llen g m.toNat i 0 = s) (h2 : st = 1 ∧ (g i = 0 ∨ s < 128)) : dll g m i x st = none := by
  unfold dll; rw [if_neg (by omega), if_pos (by rw [hs]; exact h2)]
theorem dll_2 {g : Int → Int} {m i x st s : Int} (h : m ≤ x - i) (hs : llen g m.toNat i 0 = s) (h2 : ¬ (st = 1 ∧ (g i = 0 ∨ s < 128))) : dll g m i x st = some s := by
  unfold dll; rw [if_neg (by omega), if_neg (by rw [hs]; exact h2), hs]
theorem hdr_0 {g : Int → Int} {st i x : Int} (h : idn g i x = none) : hdr g st i x = none := by unfold hdr; rw [h]
theorem hdr_1 {g : Int → Int} {st i x kd cs tg j : Int} (h : idn g i x = some (kd, cs, tg, j)) (h2 : x ≤ j) : hdr g st i x = none := by
  unfold hdr; rw [h]; exact if_pos h2
theorem hdr_o1 {g : Int → Int} {st i x kd cs tg j ct : Int} (h : idn g i x = some (kd, cs, tg, j)) (h2 : j < x) (h3 : g j = 128) (h4 : cs = 1 ∧ st = 0) (e : ct = j + 1) : hdr g st i x = some (kd, cs, tg, 1, 0, ct) := by
  unfold hdr; rw [h, e]; show (if _ then _ else _) = _; rw [if_neg (by omega), if_pos h3, if_pos h4]
theorem hdr_o0 {g : Int → Int} {st i x kd cs tg j : Int} (h : idn g i x = some (kd, cs, tg, j)) (h2 : j < x) (h3 : g j = 128) (h4 : ¬ (cs = 1 ∧ st = 0)) : hdr g st i x = none := by
  unfold hdr; rw [h]; show (if _ then _ else _) = _; rw [if_neg (by omega), if_pos h3, if_neg h4]
theorem hdr_s1 {g : Int → Int} {st i x kd cs tg j s ct : Int} (h : idn g i x = some (kd, cs, tg, j)) (h2 : j < x) (h3 : g j < 128) (h4 : s ≤ x - ct) (e1 : s = g j) (e2 : ct = j + 1) : hdr g st i x = some (kd, cs, tg, 0, s, ct) := by
  subst e1; subst e2
  unfold hdr; rw [h]; show (if _ then _ else _) = _; rw [if_neg (by omega), if_neg (by omega), if_pos h3, if_pos h4]
theorem hdr_s0 {g : Int → Int} {st i x kd cs tg j : Int} (h : idn g i x = some (kd, cs, tg, j)) (h2 : j < x) (h3 : g j < 128) (h4 : x - (j + 1) < g j) : hdr g st i x = none := by
  unfold hdr; rw [h]; show (if _ then _ else _) = _; rw [if_neg (by omega), if_neg (by omega), if_pos h3, if_neg (by omega)]
theorem hdr_l0 {g : Int → Int} {st i x kd cs tg j m ct : Int} (h : idn g i x = some (kd, cs, tg, j)) (h2 : j < x) (h3 : 128 < g j) (e1 : m = g j - 128) (e2 : ct = j + 1) (h4 : dll g m ct x st = none) : hdr g st i x = none := by
  subst e1; subst e2
  unfold hdr; rw [h]; show (if _ then _ else _) = _; rw [if_neg (by omega), if_neg (by omega), if_neg (by omega), h4]
theorem hdr_l1 {g : Int → Int} {st i x kd cs tg j s m ct c2 : Int} (h : idn g i x = some (kd, cs, tg, j)) (h2 : j < x) (h3 : 128 < g j) (e1 : m = g j - 128) (e2 : ct = j + 1) (h4 : dll g m ct x st = some s) (e3 : c2 = ct + m) (h5 : s ≤ x - c2) : hdr g st i x = some (kd, cs, tg, 0, s, c2) := by
  subst e1; subst e2; subst e3
  unfold hdr; rw [h]; show (if _ then _ else _) = _; rw [if_neg (by omega), if_neg (by omega), if_neg (by omega), h4]; exact if_pos h5
theorem hdr_l2 {g : Int → Int} {st i x kd cs tg j s m ct c2 : Int} (h : idn g i x = some (kd, cs, tg, j)) (h2 : j < x) (h3 : 128 < g j) (e1 : m = g j - 128) (e2 : ct = j + 1) (h4 : dll g m ct x st = some s) (e3 : c2 = ct + m) (h5 : x - c2 < s) : hdr g st i x = none := by
  subst e1; subst e2; subst e3
  unfold hdr; rw [h]; show (if _ then _ else _) = _; rw [if_neg (by omega), if_neg (by omega), if_neg (by omega), h4]; exact if_neg (by omega)
/-! nodes: eight numbers a node, mn nodes, in an array of M places that holds V -/
def okN (M : Nat) (V : Nat → Int) (mn : Int) : Prop := 64 ≤ M ∧ M ≤ 16384 ∧ 0 ≤ mn ∧ mn ≤ 2048 ∧ 8 * mn ≤ M ∧ (∀ j, -2147483648 ≤ V j ∧ V j < 2147483648) ∧
  ∀ a : Int, 0 ≤ a → a < mn → 0 ≤ V (a * 8 + 4).toNat ∧ V (a * 8 + 4).toNat ≤ 4096 ∧ 0 ≤ V (a * 8 + 5).toNat ∧ V (a * 8 + 5).toNat ≤ 4096 ∧ 0 ≤ V (a * 8 + 7).toNat ∧ V (a * 8 + 7).toNat ≤ mn
/-- the byte i of the contents of node a, 0 behind them -/
def cat (L : List Int) (V : Nat → Int) (a i : Int) : Int := if 0 ≤ i ∧ i < V (a * 8 + 5).toNat then gd L (V (a * 8 + 4).toNat + i) else 0
theorem cat_in {L : List Int} {V : Nat → Int} {a i : Int} (h : 0 ≤ i ∧ i < V (a * 8 + 5).toNat) : gd L (V (a * 8 + 4).toNat + i) = cat L V a i := (if_pos h).symm
theorem cat_out {L : List Int} {V : Nat → Int} {a i : Int} (h : i < 0 ∨ V (a * 8 + 5).toNat ≤ i) : 0 = cat L V a i := (if_neg (by omega)).symm
theorem cat_rng {w : Nat} {t : Nat → Int} {z : Int} {L : List Int} (hok : okB w t z L) (V : Nat → Int) (a i : Int) : 0 ≤ cat L V a i ∧ cat L V a i < 256 := by
  unfold cat
  split
  · exact gd_rng hok _
  · decide
def hnum (L : List Int) (V : Nat → Int) (a : Int) : Prop := 1 ≤ V (a * 8 + 5).toNat ∧ V (a * 8 + 5).toNat ≤ 8 ∧ (V (a * 8 + 5).toNat = 1 ∨ ¬ (cat L V a 0 * 2 + cat L V a 1 / 128 = 0) ∧ ¬ (cat L V a 0 * 2 + cat L V a 1 / 128 = 511))
def sfold (f : Int → Int) : Nat → Int → Int → Int
  | 0, _, s => s
  | k + 1, i, s => sfold f k (i + 1) (s * 256 + f i)
/-- the contents of node a as a number with sign -/
def sgn (L : List Int) (V : Nat → Int) (a : Int) : Int := sfold (cat L V a) (min (V (a * 8 + 5).toNat) 8).toNat 0 (if 128 ≤ cat L V a 0 then -1 else 0)
theorem sfold_s {f : Int → Int} {m j s y : Int} (h : j < m) (hy : y = s * 256 + f j) : sfold f (m - j).toNat j s = sfold f (m - (j + 1)).toNat (j + 1) y := by
  rw [show (m - j).toNat = (m - (j + 1)).toNat + 1 by omega, hy]
  rfl
theorem sfold_e {f : Int → Int} {m j s : Int} (h : m ≤ j) : sfold f (m - j).toNat j s = s := by
  rw [show (m - j).toNat = 0 by omega]; rfl
def ordr (f g : Int → Int) : Nat → Int → Int
  | 0, _ => 0
  | k + 1, i => if f i < g i then -1 else if g i < f i then 1 else ordr f g k (i + 1)
def ord2 (L : List Int) (V : Nat → Int) (a b : Int) : Int := ordr (cat L V a) (cat L V b) (min 4096 (max (V (a * 8 + 5).toNat) (V (b * 8 + 5).toNat))).toNat 0
theorem ordr_e {f g : Int → Int} {m j : Int} (h : m ≤ j) : ordr f g (m - j).toNat j = 0 := by
  rw [show (m - j).toNat = 0 by omega]; rfl
theorem ordr_lt {f g : Int → Int} {m j : Int} (h : j < m) (h2 : f j < g j) : ordr f g (m - j).toNat j = -1 := by
  rw [show (m - j).toNat = (m - (j + 1)).toNat + 1 by omega]
  exact if_pos h2
theorem ordr_gt {f g : Int → Int} {m j : Int} (h : j < m) (h2 : g j < f j) : ordr f g (m - j).toNat j = 1 := by
  rw [show (m - j).toNat = (m - (j + 1)).toNat + 1 by omega]
  show (if _ then _ else _) = _
  rw [if_neg (by omega), if_pos h2]
theorem ordr_s {f g : Int → Int} {m j : Int} (h : j < m) (h2 : f j = g j) : ordr f g (m - j).toNat j = ordr f g (m - (j + 1)).toNat (j + 1) := by
  rw [show (m - j).toNat = (m - (j + 1)).toNat + 1 by omega]
  show (if _ then _ else _) = _
  rw [if_neg (by omega), if_neg (by omega)]
/-! what is written: identifier, length, the fewest bytes of a number -/
def lnB (i : Int) : List Int := if i < 128 then [i] else if i < 256 then [129, i] else 130 :: nb i 2
def sv (k : Int) : Nat → List Int
  | 0 => [k % 128]
  | m + 1 => (if k / 128 ^ (m + 1) = 0 then [] else [128 + k / 128 ^ (m + 1) % 128]) ++ sv k m
def idB (c k cs : Int) : List Int := if k < 31 then [c * 64 + cs * 32 + k] else (c * 64 + cs * 32 + 31) :: sv k 4
theorem p7 {h : Int} (h0 : 0 ≤ h) (h7 : h % 7 = 0) : (2 : Int) ^ h.toNat = 128 ^ (h / 7).toNat := by
  obtain ⟨n, hn⟩ : ∃ n : Nat, h = 7 * (n : Int) := ⟨(h / 7).toNat, by omega⟩
  subst hn
  rw [show (7 * (n : Int)).toNat = 7 * n by omega, show (7 * (n : Int) / 7).toNat = n by omega, Int.pow_mul]
  rfl
theorem sv_s {k h : Int} (h0 : 7 ≤ h) (h7 : h % 7 = 0) : sv k (h / 7).toNat = (if k / 2 ^ h.toNat = 0 then [] else [128 + k / 2 ^ h.toNat % 128]) ++ sv k ((h - 7) / 7).toNat := by
  rw [p7 (by omega) h7, show (h / 7).toNat = ((h - 7) / 7).toNat + 1 by omega]
  rfl
theorem sv_0 {k h : Int} (h0 : h < 7) (h1 : 0 ≤ h) (h7 : h % 7 = 0) : sv k (h / 7).toNat = [k % 128] := by
  rw [show (h / 7).toNat = 0 by omega]; rfl
def fwb (x : Int) : Nat → Int → Int
  | 0, _ => 8
  | m + 1, j => if x / 2 ^ (8 * j - 1).toNat = 0 ∨ x / 2 ^ (8 * j - 1).toNat = -1 then j else fwb x m (j + 1)
theorem fwb_e {x j : Int} (h : 8 ≤ j) : fwb x (8 - j).toNat j = 8 := by
  rw [show (8 - j).toNat = 0 by omega]; rfl
theorem fwb_y {x j : Int} (h : j < 8) (h2 : x / 2 ^ (8 * j - 1).toNat = 0 ∨ x / 2 ^ (8 * j - 1).toNat = -1) : fwb x (8 - j).toNat j = j := by
  rw [show (8 - j).toNat = (8 - (j + 1)).toNat + 1 by omega]; exact if_pos h2
theorem fwb_n {x j : Int} (h : j < 8) (h2 : ¬ (x / 2 ^ (8 * j - 1).toNat = 0 ∨ x / 2 ^ (8 * j - 1).toNat = -1)) : fwb x (8 - j).toNat j = fwb x (8 - (j + 1)).toNat (j + 1) := by
  rw [show (8 - j).toNat = (8 - (j + 1)).toNat + 1 by omega]; exact if_neg h2
theorem sh_rng {x j : Int} (h : -9223372036854775808 ≤ x ∧ x < 9223372036854775808) (_ : 0 ≤ j) : -9223372036854775808 ≤ x / 2 ^ (8 * j - 1).toNat ∧ x / 2 ^ (8 * j - 1).toNat < 9223372036854775808 := by
  generalize (8 * j - 1).toNat = n
  have hp : (0 : Int) < 2 ^ n := Int.pow_pos (by decide)
  have h1 : (1 : Int) ≤ 2 ^ n := hp
  constructor
  · apply Int.le_ediv_of_mul_le hp
    have : (-9223372036854775808 : Int) * 2 ^ n ≤ -9223372036854775808 * 1 := Int.mul_le_mul_of_nonpos_left (by decide) h1
    omega
  · apply Int.ediv_lt_of_lt_mul hp
    have : (9223372036854775808 : Int) * 1 ≤ 9223372036854775808 * 2 ^ n := Int.mul_le_mul_of_nonneg_left h1 (by decide)
    omega
theorem shr_rng {y j : Int} (h : 0 ≤ y ∧ y < 2147483648) (_ : 0 ≤ j) : 0 ≤ y / 2 ^ j.toNat ∧ y / 2 ^ j.toNat < 2147483648 := by
  generalize j.toNat = n
  have hp : (0 : Int) < 2 ^ n := Int.pow_pos (by decide)
  have h1 : (1 : Int) ≤ 2 ^ n := hp
  constructor
  · exact Int.ediv_nonneg h.1 (by omega)
  · apply Int.ediv_lt_of_lt_mul hp
    have : (2147483648 : Int) * 1 ≤ 2147483648 * 2 ^ n := Int.mul_le_mul_of_nonneg_left h1 (by decide)
    omega
end
section
set_option maxHeartbeats 4000000 in
set_option maxRecDepth 100000 in
theorem c_H_lnum (l : Launch) (dC : Nat → ClassId) (dI : Nat → Nat → Nat) (sz : Nat) (h : Nat) (kd : Int) (cs : Int) (tg : Int) (op : Int) (sz1 : Int) (ct : Int) (b : Nat) (r : Nat) (cA : ClassId) (w : Nat) (t : Nat → Int) (z : Int) (L : List Int) (i : Int) (x : Int) (hok : okB w t z L) (hi : 0 ≤ i ∧ i ≤ x) (hx4 : 0 ≤ x ∧ x ≤ 4096) : mv_Met l yX1_decodeLongNumber wsX1_decodeLongNumber ({ frames := 1, cells := 0, slots := 0, locals := 40 }) (va_Pc [.ref h, .ref b, .int (iI i), .int (iI x)] (fun U => U.heap.size = sz ∧ va_P (dC, dI) vwCl [(h, .inr (1, [.int (iI kd), .int (iI cs), .int (iI tg), .int (iI op), .int (iI sz1), .int (iI ct)])), (b, .inr (0, [.ref r, .int (iI z)])), (r, .inl (cA, w, .inl (fun j => bI (t j))))] U.heap ∧ va_K (dC, dI) vwCl [(cA, .byte)] U ∧ va_D (fun _ => True) [(h, .inr (1, [.int (iI kd), .int (iI cs), .int (iI tg), .int (iI op), .int (iI sz1), .int (iI ct)])), (b, .inr (0, [.ref r, .int (iI z)])), (r, .inl (cA, w, .inl (fun j => bI (t j))))])) (mv_Q (fun (v : Option Value) (u : Int × Int) (k n : Nat) => match u with | (tg', q') => v = some (.int (iI q')) ∧ (lgn (gd L) i x = none ∧ q' = -1 ∨ lgn (gd L) i x = some (tg', q') ∧ i < q' ∧ q' ≤ x ∧ -1 ≤ tg' ∧ tg' ≤ 2147483647) ∧ k = 0 ∧ n = 0) (fun (u : Int × Int) (tS : State) => match u with | (tg', q') => va_P (dC, dI) vwCl [(h, .inr (1, [.int (iI kd), .int (iI cs), .int (iI tg'), .int (iI op), .int (iI sz1), .int (iI ct)])), (b, .inr (0, [.ref r, .int (iI z)])), (r, .inl (cA, w, .inl (fun j => bI (t j))))] tS.heap ∧ va_K (dC, dI) vwCl [(cA, .byte)] tS ∧ va_D (va_A [(h, .inr (1, [.int (iI kd), .int (iI cs), .int (iI tg), .int (iI op), .int (iI sz1), .int (iI ct)])), (b, .inr (0, [.ref r, .int (iI z)])), (r, .inl (cA, w, .inl (fun j => bI (t j))))] sz) [(h, .inr (1, [.int (iI kd), .int (iI cs), .int (iI tg'), .int (iI op), .int (iI sz1), .int (iI ct)])), (b, .inr (0, [.ref r, .int (iI z)])), (r, .inl (cA, w, .inl (fun j => bI (t j))))]) (va_A [(h, .inr (1, [.int (iI kd), .int (iI cs), .int (iI tg), .int (iI op), .int (iI sz1), .int (iI ct)])), (b, .inr (0, [.ref r, .int (iI z)])), (r, .inl (cA, w, .inl (fun j => bI (t j))))] sz)) (va_A [(h, .inr (1, [.int (iI kd), .int (iI cs), .int (iI tg), .int (iI op), .int (iI sz1), .int (iI ct)])), (b, .inr (0, [.ref r, .int (iI z)])), (r, .inl (cA, w, .inl (fun j => bI (t j))))] sz) := by
  refine mv_ofW (cc := cX1_decodeLongNumber) (maxL := 8) (ret := (some .int)) (by decide) rfl ?_
  intro p e s m args below meth c s₁ B hml hv
  obtain ⟨rfl, hsz, hP, hK, hD0⟩ := hv
  have hx := B.exec
  have hb := B.bytes
  have hr := B.returns
  have hT : ∀ w ∈ wT, w.before _ s = true := fun w h => atoms_spec (ws := wsX1_decodeLongNumber) B.pre w (List.mem_cons_of_mem _ h)
  have hown : s.vm.findClass RX1 = some m.cls := findClass_of_methodNamed B.named
  have hlocks := B.notSynchronized
  subst hsz
  have hD := hD0.self (sz := s.heap.size)
  generalize hAe : va_A [(h, .inr (1, [.int (iI kd), .int (iI cs), .int (iI tg), .int (iI op), .int (iI sz1), .int (iI ct)])), (b, .inr (0, [.ref r, .int (iI z)])), (r, .inl (cA, w, .inl (fun j => bI (t j))))] s.heap.size = A at hD ⊢
  have hA : ∀ q : Nat, s.heap.size ≤ q → A q := fun q h => by rw [← hAe]; exact Or.inr h
  have hS : va_S A s.heap s.heap [] := va_S.rf
  have hP : va_P (dC, dI) vwCl [(h, .inr (1, [.int (iI kd), .int (iI cs), .int (iI tg), .int (iI op), .int (iI sz1), .int (iI ct)])), (b, .inr (0, [.ref r, .int (iI z)])), (r, .inl (cA, w, .inl (fun j => bI (t j))))] s.heap := hP
  have hl := lv_entry ([.ref h, .ref b, .int (iI i), .int (iI x)]) (n := 8) (Nat.le_of_ble_eq_true rfl)
  rw [lg_entry_eq]
  generalize (lg_sl ([.ref h, .ref b, .int (iI i), .int (iI x)]) ++ List.replicate (8 - (lg_sl ([.ref h, .ref b, .int (iI i), .int (iI x)])).length) Slot.unset).toArray = ls at hl ⊢
  have hl : lv_has ls 8 [(0, .ref h), (1, .ref b), (2, .int (iI i)), (3, .int (iI x))] := hl
  obtain ⟨hw1, hw2, hw3, hw4, hw5, hw6⟩ := id hok
  have hg8 := gd_rng hok
  have hgi := hg8 i
  refine mv_nameQ (fun Q9 hQ9 => ?_)
  have LP : ∀ (fu : Nat) (a : Int) (j : Int) (H : Heap) (locs : List Loc) (ls : Array Slot) (kc ks : Nat), (x - j < (fu : Int)) → (i ≤ j ∧ j ≤ x) → (0 ≤ a ∧ a ≤ 300000000000) → (¬ gd L i % 128 = 0) → (lnum (gd L) (x - i).toNat i 0 = lnum (gd L) (x - j).toNat j a) → (kc = 0 ∧ ks = 0) → va_K (dC, dI) vwCl [(cA, .byte)] s → va_P (dC, dI) vwCl [(h, .inr (1, [.int (iI kd), .int (iI cs), .int (iI tg), .int (iI op), .int (iI sz1), .int (iI ct)])), (b, .inr (0, [.ref r, .int (iI z)])), (r, .inl (cA, w, .inl (fun j => bI (t j))))] H → va_D A [(h, .inr (1, [.int (iI kd), .int (iI cs), .int (iI tg), .int (iI op), .int (iI sz1), .int (iI ct)])), (b, .inr (0, [.ref r, .int (iI z)])), (r, .inl (cA, w, .inl (fun j => bI (t j))))] → va_S A s.heap H locs → lv_has ls 8 [(0, .ref h), (1, .ref b), (2, .int (iI i)), (3, .int (iI x)), (4, .long (lI a)), (6, .int (iI j))] → W p l e ({ frames := 1, cells := 0, slots := 0, locals := 40 }) s m ([.ref h, .ref b, .int (iI i), .int (iI x)] : List Value).toArray below meth c H locs kc ks Q9 (F0 m 19 ls []) := by
    intro fu
    induction fu with
    | zero =>
      intro a j H locs ls kc ks hfu hj ha hne hn hkc hK hP hD hS hl
      exfalso
      omega
    | succ fu ih =>
      intro a j H locs ls kc ks hfu hj ha hne hn hkc hK hP hD hS hl
      have hgj := hg8 j
      refine lv_iload hx hb dX1_decodeLongNumber_19 (lv_at hl 5 rfl) ?_
      refine lv_iload_n hx hb dX1_decodeLongNumber_21 rfl (lv_at hl 3 rfl) ?_
      refine li_icmp_ge (tgt := 114) hx hb (by omega) (by omega) dX1_decodeLongNumber_22 (by decide) (fun c1 => ?_) (fun c1 => ?_)
      · skip
        refine lv_iconst (v := iI (-1)) hx hb dX1_decodeLongNumber_114 rfl ?_
        subst hQ9
        have hP9 := hP.sub (ws' := [(h, .inr (1, [.int (iI kd), .int (iI cs), .int (iI tg), .int (iI op), .int (iI sz1), .int (iI ct)])), (b, .inr (0, [.ref r, .int (iI z)])), (r, .inl (cA, w, .inl (fun j => bI (t j))))]) [0, 1, 2] rfl
        have hD9 := hD.sub (ws' := [(h, .inr (1, [.int (iI kd), .int (iI cs), .int (iI tg), .int (iI op), .int (iI sz1), .int (iI ct)])), (b, .inr (0, [.ref r, .int (iI z)])), (r, .inl (cA, w, .inl (fun j => bI (t j))))]) [0, 1, 2] (by decide) rfl
        have hK9 := hK.sub (tys' := [(cA, .byte)]) [0] rfl
        exact mv_iret hx hb hr hlocks (fun tS ht hW => ⟨⟨_, (tg, (-1)), rfl, ⟨rfl, Or.inl ⟨lgn_no hne (by rw [hn]; exact lnum_no c1), rfl⟩, by omega, by omega⟩, by rw [ht]; exact hP9, va_K.moved hW.alike hK9, hD9⟩, hS.F ht⟩) hS.2.2 dX1_decodeLongNumber_115
      · skip
        refine lv_aload_n hx hb dX1_decodeLongNumber_25 rfl (lv_at hl 1 rfl) ?_
        refine lv_iload hx hb dX1_decodeLongNumber_26 (lv_at hl 5 rfl) ?_
        have hPc := hP.sub (ws' := [(b, .inr (0, [.ref r, .int (iI z)])), (r, .inl (cA, w, .inl (fun j => bI (t j))))]) [1, 2] rfl
        have hDc := hD.sub (ws' := [(b, .inr (0, [.ref r, .int (iI z)])), (r, .inl (cA, w, .inl (fun j => bI (t j))))]) [1, 2] (by decide) rfl
        have hKc := hK.sub (tys' := [(cA, .byte)]) [0] rfl
        have hFc := va_free (wc := [(b, .inr (0, [.ref r, .int (iI z)])), (r, .inl (cA, w, .inl (fun j => bI (t j))))]) hD hS hA [1, 2] rfl
        refine mv_call (mv_runV (As := [.int (iI j)]) (rest := []) ⟨hx, hb, hml, hown, hT⟩ (c_B_at l dC dI H.size b r cA w t z L j (hok) (by omega)) (cwV 1 hT (gV wd321 wd322 wd323 wd27 wd324) rfl rfl rfl (by decide +kernel) ⟨show 0 + 1 ≤ 1 from by omega, show 8 + (2 + 11) + 0 ≤ 40 from by omega⟩) ⟨fun a U g mk q => by obtain ⟨q0, q1, qP, qK, qD⟩ := q; exact ⟨q0, q1, qP, va_K.moved (u := U) (U := U.calling g mk a) (Vm.Alike.refl U.vm) qK, qD⟩, va_recv hKc hPc (ci := 0) (q0 := 0) rfl rfl, fun U hU hW => ⟨rfl, by rw [hU], by rw [hU]; exact hPc, va_K.moved hW.alike hKc, hDc.weaken (fun _ _ _ _ => trivial)⟩⟩ rfl rfl hl.1 rfl (lv_room (Nat.le_of_ble_eq_true rfl)) dX1_decodeLongNumber_28 ⟨show kc + 0 ≤ 0 from by omega, show ks + 0 ≤ 0 from by omega⟩) hS (fun q _ h => hFc q h) hFc (fun v4 u k2 n3 tS H1 locs ht hvm hw hB hz1 hk1 hS => ?_)
        obtain ⟨hP1, hK1, hD1⟩ := hB
        rw [ht] at hP1
        have hK1 := va_K.moved hvm.symm hK1
        try dsimp only at hw
        obtain ⟨hP, hD⟩ := va_join (wr := [(h, .inr (1, [.int (iI kd), .int (iI cs), .int (iI tg), .int (iI op), .int (iI sz1), .int (iI ct)]))]) (w1 := [(b, .inr (0, [.ref r, .int (iI z)])), (r, .inl (cA, w, .inl (fun j => bI (t j))))]) hP hD [1, 2] [0] rfl rfl (by decide) (by decide) hk1 hFc hP1 hD1
        have hK := (hK.sub (tys' := []) [] rfl).app hK1
        generalize H1 = H at hP hS ⊢
        have hP : va_P (dC, dI) vwCl [(h, .inr (1, [.int (iI kd), .int (iI cs), .int (iI tg), .int (iI op), .int (iI sz1), .int (iI ct)])), (b, .inr (0, [.ref r, .int (iI z)])), (r, .inl (cA, w, .inl (fun j => bI (t j))))] H := hP
        have hD : va_D A [(h, .inr (1, [.int (iI kd), .int (iI cs), .int (iI tg), .int (iI op), .int (iI sz1), .int (iI ct)])), (b, .inr (0, [.ref r, .int (iI z)])), (r, .inl (cA, w, .inl (fun j => bI (t j))))] := hD
        have hK : va_K (dC, dI) vwCl [(cA, .byte)] s := hK
        obtain ⟨rfl, rfl, rfl⟩ := hw
        refine W.eq (g2 := F0 m 31 ls [.int (iI (gd L j))]) rfl ?_
        refine li_nm (fun z5 ez5 => ?_)
        refine lv_istore (lv' := [(7, .int (iI z5)), (0, .ref h), (1, .ref b), (2, .int (iI i)), (3, .int (iI x)), (4, .long (lI a)), (6, .int (iI j))]) hx hb dX1_decodeLongNumber_31 hl (by decide) rfl (fun ls hl => ?_)
        refine lv_lload hx hb dX1_decodeLongNumber_33 (lv_at hl 5 rfl) ?_
        refine lv_ldc2 (v := lI 2147483647) hx hb hown (hT _ wd329) dX1_decodeLongNumber_35 ?_
        refine li_lcmp_le (tgt := 47) hx hb (by omega) (by omega) dX1_decodeLongNumber_38 dX1_decodeLongNumber_39 (by decide) (fun c6 => ?_) (fun c6 => ?_)
        · skip
          refine lv_lload hx hb dX1_decodeLongNumber_47 (lv_at hl 5 rfl) ?_
          refine lv_ldc2 (v := lI 128) hx hb hown (hT _ wd330) dX1_decodeLongNumber_49 ?_
          refine li_lmul hx hb dX1_decodeLongNumber_52 ?_
          refine lv_iload hx hb dX1_decodeLongNumber_53 (lv_at hl 0 rfl) ?_
          refine lv_bipush (v := iI 127) hx hb dX1_decodeLongNumber_55 (by decide +kernel) ?_
          refine li_iand127 hx hb dX1_decodeLongNumber_57 ?_
          refine li_i2l hx hb (by omega) dX1_decodeLongNumber_58 ?_
          refine li_ladd hx hb dX1_decodeLongNumber_59 ?_
          refine li_nml (fun z7 ez7 => ?_)
          refine lv_lstore (lv' := [(4, .long (lI z7)), (7, .int (iI z5)), (0, .ref h), (1, .ref b), (2, .int (iI i)), (3, .int (iI x)), (6, .int (iI j))]) hx hb dX1_decodeLongNumber_60 hl (by decide) rfl (fun ls hl => ?_)
          refine lv_iload hx hb dX1_decodeLongNumber_62 (lv_at hl 1 rfl) ?_
          refine lv_sipush (v := iI 128) hx hb dX1_decodeLongNumber_64 (by decide +kernel) ?_
          refine li_icmp_ge (tgt := 108) hx hb (by omega) (by omega) dX1_decodeLongNumber_67 (by decide) (fun c8 => ?_) (fun c8 => ?_)
          · skip
            obtain ⟨z9, ez9⟩ : ∃ y : Int, y = j + 1 := ⟨_, rfl⟩
            refine lv_iinc (v := iI z9) (lv' := [(6, .int (iI z9)), (4, .long (lI z7)), (7, .int (iI z5)), (0, .ref h), (1, .ref b), (2, .int (iI i)), (3, .int (iI x))]) hx hb dX1_decodeLongNumber_108 hl (k := 6) rfl (by rw [ez9]; exact iI_add _ _) (by decide) rfl (fun ls hl => ?_)
            refine lv_goto (tgt := 19) hx hb dX1_decodeLongNumber_111 (by decide) ?_
            have z9_eq : z9 = j + 1 := by omega
            exact ih z7 z9 _ _ _ _ _ (by omega) (by omega) (by omega) (hne) (by rw [hn, z9_eq]; exact lnum_go (by omega) (by omega) (by first | (rw [stp_hi (by omega)]; done) | (rw [stp_hi (by omega)]; omega) | (rw [stp_lo (by omega)]; omega))) (by omega) (hK.sub [0] rfl) (hP.sub [0, 1, 2] rfl) (hD.sub [0, 1, 2] (by decide) rfl) hS (lv_sub hl [3, 4, 5, 6, 1, 0] rfl)
          · skip
            refine lv_aload_n hx hb dX1_decodeLongNumber_70 rfl (lv_at hl 2 rfl) ?_
            refine lv_lload hx hb dX1_decodeLongNumber_71 (lv_at hl 0 rfl) ?_
            refine lv_ldc2 (v := lI 2147483647) hx hb hown (hT _ wd329) dX1_decodeLongNumber_73 ?_
            refine li_lcmp_le (tgt := 84) hx hb (by omega) (by omega) dX1_decodeLongNumber_76 dX1_decodeLongNumber_77 (by decide) (fun c10 => ?_) (fun c10 => ?_)
            · skip
              refine lv_lload hx hb dX1_decodeLongNumber_84 (lv_at hl 0 rfl) ?_
              refine li_l2i hx hb dX1_decodeLongNumber_86 ?_
              refine va_put (D := (dC, dI)) (ci := 1) (v := .int (iI z7)) (ty := .int) (C := RX1) (T := TX1) (N := 6) hx hb hT inX1 tyX1 tyX1_ok nX1 hown hK hP hD hS 0 rfl rfl 2 (by decide) (hT _ wd82) (fun _ h9 => h9) rfl (by decide +kernel) rfl rfl (Nat.le_of_ble_eq_true rfl) dX1_decodeLongNumber_87 (fun H locs hP hD hS => ?_)
              have hP : va_P (dC, dI) vwCl [(h, .inr (1, [.int (iI kd), .int (iI cs), .int (iI z7), .int (iI op), .int (iI sz1), .int (iI ct)])), (b, .inr (0, [.ref r, .int (iI z)])), (r, .inl (cA, w, .inl (fun j => bI (t j))))] H := hP
              have hD : va_D A [(h, .inr (1, [.int (iI kd), .int (iI cs), .int (iI z7), .int (iI op), .int (iI sz1), .int (iI ct)])), (b, .inr (0, [.ref r, .int (iI z)])), (r, .inl (cA, w, .inl (fun j => bI (t j))))] := hD
              refine lv_lload hx hb dX1_decodeLongNumber_90 (lv_at hl 0 rfl) ?_
              refine lv_ldc2 (v := lI 31) hx hb hown (hT _ wd331) dX1_decodeLongNumber_92 ?_
              refine li_lcmp_ge (tgt := 103) hx hb (by omega) (by omega) dX1_decodeLongNumber_95 dX1_decodeLongNumber_96 (by decide) (fun c11 => ?_) (fun c11 => ?_)
              · skip
                refine lv_iload hx hb dX1_decodeLongNumber_103 (lv_at hl 6 rfl) ?_
                refine lv_iconst (v := iI 1) hx hb dX1_decodeLongNumber_105 rfl ?_
                refine li_iadd hx hb dX1_decodeLongNumber_106 ?_
                subst hQ9
                have hP9 := hP.sub (ws' := [(h, .inr (1, [.int (iI kd), .int (iI cs), .int (iI z7), .int (iI op), .int (iI sz1), .int (iI ct)])), (b, .inr (0, [.ref r, .int (iI z)])), (r, .inl (cA, w, .inl (fun j => bI (t j))))]) [0, 1, 2] rfl
                have hD9 := hD.sub (ws' := [(h, .inr (1, [.int (iI kd), .int (iI cs), .int (iI z7), .int (iI op), .int (iI sz1), .int (iI ct)])), (b, .inr (0, [.ref r, .int (iI z)])), (r, .inl (cA, w, .inl (fun j => bI (t j))))]) [0, 1, 2] (by decide) rfl
                have hK9 := hK.sub (tys' := [(cA, .byte)]) [0] rfl
                exact mv_iret hx hb hr hlocks (fun tS ht hW => ⟨⟨_, (z7, (j + 1)), rfl, ⟨rfl, Or.inr ⟨lgn_hi (a := z7) hne (by rw [hn]; exact lnum_end (by omega) (by omega) (by first | (rw [stp_hi (by omega)]; done) | (rw [stp_hi (by omega)]; omega) | (rw [stp_lo (by omega)]; omega))) (by omega) (by first | (rw [if_pos (by omega)]; done) | (rw [if_neg (by omega)]; done)), by omega, by omega, by omega, by omega⟩, by omega, by omega⟩, by rw [ht]; exact hP9, va_K.moved hW.alike hK9, hD9⟩, hS.F ht⟩) hS.2.2 dX1_decodeLongNumber_107
              · skip
                refine lv_iconst (v := iI (-1)) hx hb dX1_decodeLongNumber_99 rfl ?_
                refine lv_goto (tgt := 107) hx hb dX1_decodeLongNumber_100 (by decide) ?_
                subst hQ9
                have hP9 := hP.sub (ws' := [(h, .inr (1, [.int (iI kd), .int (iI cs), .int (iI z7), .int (iI op), .int (iI sz1), .int (iI ct)])), (b, .inr (0, [.ref r, .int (iI z)])), (r, .inl (cA, w, .inl (fun j => bI (t j))))]) [0, 1, 2] rfl
                have hD9 := hD.sub (ws' := [(h, .inr (1, [.int (iI kd), .int (iI cs), .int (iI z7), .int (iI op), .int (iI sz1), .int (iI ct)])), (b, .inr (0, [.ref r, .int (iI z)])), (r, .inl (cA, w, .inl (fun j => bI (t j))))]) [0, 1, 2] (by decide) rfl
                have hK9 := hK.sub (tys' := [(cA, .byte)]) [0] rfl
                exact mv_iret hx hb hr hlocks (fun tS ht hW => ⟨⟨_, (z7, (-1)), rfl, ⟨rfl, Or.inl ⟨lgn_lo (a := z7) hne (by rw [hn]; exact lnum_end (by omega) (by omega) (by first | (rw [stp_hi (by omega)]; done) | (rw [stp_hi (by omega)]; omega) | (rw [stp_lo (by omega)]; omega))) (by omega), rfl⟩, by omega, by omega⟩, by rw [ht]; exact hP9, va_K.moved hW.alike hK9, hD9⟩, hS.F ht⟩) hS.2.2 dX1_decodeLongNumber_107
            · skip
              refine lv_iconst (v := iI (-1)) hx hb dX1_decodeLongNumber_80 rfl ?_
              refine lv_goto (tgt := 87) hx hb dX1_decodeLongNumber_81 (by decide) ?_
              refine va_put (D := (dC, dI)) (ci := 1) (v := .int (iI (-1))) (ty := .int) (C := RX1) (T := TX1) (N := 6) hx hb hT inX1 tyX1 tyX1_ok nX1 hown hK hP hD hS 0 rfl rfl 2 (by decide) (hT _ wd82) (fun _ h9 => h9) rfl (by decide +kernel) rfl rfl (Nat.le_of_ble_eq_true rfl) dX1_decodeLongNumber_87 (fun H locs hP hD hS => ?_)
              have hP : va_P (dC, dI) vwCl [(h, .inr (1, [.int (iI kd), .int (iI cs), .int (iI (-1)), .int (iI op), .int (iI sz1), .int (iI ct)])), (b, .inr (0, [.ref r, .int (iI z)])), (r, .inl (cA, w, .inl (fun j => bI (t j))))] H := hP
              have hD : va_D A [(h, .inr (1, [.int (iI kd), .int (iI cs), .int (iI (-1)), .int (iI op), .int (iI sz1), .int (iI ct)])), (b, .inr (0, [.ref r, .int (iI z)])), (r, .inl (cA, w, .inl (fun j => bI (t j))))] := hD
              refine lv_lload hx hb dX1_decodeLongNumber_90 (lv_at hl 0 rfl) ?_
              refine lv_ldc2 (v := lI 31) hx hb hown (hT _ wd331) dX1_decodeLongNumber_92 ?_
              refine li_lcmp_ge (tgt := 103) hx hb (by omega) (by omega) dX1_decodeLongNumber_95 dX1_decodeLongNumber_96 (by decide) (fun c12 => ?_) (fun c12 => ?_)
              · skip
                refine lv_iload hx hb dX1_decodeLongNumber_103 (lv_at hl 6 rfl) ?_
                refine lv_iconst (v := iI 1) hx hb dX1_decodeLongNumber_105 rfl ?_
                refine li_iadd hx hb dX1_decodeLongNumber_106 ?_
                subst hQ9
                have hP9 := hP.sub (ws' := [(h, .inr (1, [.int (iI kd), .int (iI cs), .int (iI (-1)), .int (iI op), .int (iI sz1), .int (iI ct)])), (b, .inr (0, [.ref r, .int (iI z)])), (r, .inl (cA, w, .inl (fun j => bI (t j))))]) [0, 1, 2] rfl
                have hD9 := hD.sub (ws' := [(h, .inr (1, [.int (iI kd), .int (iI cs), .int (iI (-1)), .int (iI op), .int (iI sz1), .int (iI ct)])), (b, .inr (0, [.ref r, .int (iI z)])), (r, .inl (cA, w, .inl (fun j => bI (t j))))]) [0, 1, 2] (by decide) rfl
                have hK9 := hK.sub (tys' := [(cA, .byte)]) [0] rfl
                exact mv_iret hx hb hr hlocks (fun tS ht hW => ⟨⟨_, ((-1), (j + 1)), rfl, ⟨rfl, Or.inr ⟨lgn_hi (a := z7) hne (by rw [hn]; exact lnum_end (by omega) (by omega) (by first | (rw [stp_hi (by omega)]; done) | (rw [stp_hi (by omega)]; omega) | (rw [stp_lo (by omega)]; omega))) (by omega) (by first | (rw [if_pos (by omega)]; done) | (rw [if_neg (by omega)]; done)), by omega, by omega, by omega, by omega⟩, by omega, by omega⟩, by rw [ht]; exact hP9, va_K.moved hW.alike hK9, hD9⟩, hS.F ht⟩) hS.2.2 dX1_decodeLongNumber_107
              · skip
                refine lv_iconst (v := iI (-1)) hx hb dX1_decodeLongNumber_99 rfl ?_
                refine lv_goto (tgt := 107) hx hb dX1_decodeLongNumber_100 (by decide) ?_
                subst hQ9
                have hP9 := hP.sub (ws' := [(h, .inr (1, [.int (iI kd), .int (iI cs), .int (iI (-1)), .int (iI op), .int (iI sz1), .int (iI ct)])), (b, .inr (0, [.ref r, .int (iI z)])), (r, .inl (cA, w, .inl (fun j => bI (t j))))]) [0, 1, 2] rfl
                have hD9 := hD.sub (ws' := [(h, .inr (1, [.int (iI kd), .int (iI cs), .int (iI (-1)), .int (iI op), .int (iI sz1), .int (iI ct)])), (b, .inr (0, [.ref r, .int (iI z)])), (r, .inl (cA, w, .inl (fun j => bI (t j))))]) [0, 1, 2] (by decide) rfl
                have hK9 := hK.sub (tys' := [(cA, .byte)]) [0] rfl
                exact mv_iret hx hb hr hlocks (fun tS ht hW => ⟨⟨_, ((-1), (-1)), rfl, ⟨rfl, Or.inl ⟨lgn_lo (a := z7) hne (by rw [hn]; exact lnum_end (by omega) (by omega) (by first | (rw [stp_hi (by omega)]; done) | (rw [stp_hi (by omega)]; omega) | (rw [stp_lo (by omega)]; omega))) (by omega), rfl⟩, by omega, by omega⟩, by rw [ht]; exact hP9, va_K.moved hW.alike hK9, hD9⟩, hS.F ht⟩) hS.2.2 dX1_decodeLongNumber_107
        · skip
          refine lv_lload hx hb dX1_decodeLongNumber_42 (lv_at hl 5 rfl) ?_
          refine lv_goto (tgt := 60) hx hb dX1_decodeLongNumber_44 (by decide) ?_
          refine lv_lstore (lv' := [(4, .long (lI a)), (7, .int (iI z5)), (0, .ref h), (1, .ref b), (2, .int (iI i)), (3, .int (iI x)), (6, .int (iI j))]) hx hb dX1_decodeLongNumber_60 hl (by decide) rfl (fun ls hl => ?_)
          refine lv_iload hx hb dX1_decodeLongNumber_62 (lv_at hl 1 rfl) ?_
          refine lv_sipush (v := iI 128) hx hb dX1_decodeLongNumber_64 (by decide +kernel) ?_
          refine li_icmp_ge (tgt := 108) hx hb (by omega) (by omega) dX1_decodeLongNumber_67 (by decide) (fun c13 => ?_) (fun c13 => ?_)
          · skip
            obtain ⟨z14, ez14⟩ : ∃ y : Int, y = j + 1 := ⟨_, rfl⟩
            refine lv_iinc (v := iI z14) (lv' := [(6, .int (iI z14)), (4, .long (lI a)), (7, .int (iI z5)), (0, .ref h), (1, .ref b), (2, .int (iI i)), (3, .int (iI x))]) hx hb dX1_decodeLongNumber_108 hl (k := 6) rfl (by rw [ez14]; exact iI_add _ _) (by decide) rfl (fun ls hl => ?_)
            refine lv_goto (tgt := 19) hx hb dX1_decodeLongNumber_111 (by decide) ?_
            have z14_eq : z14 = j + 1 := by omega
            exact ih a z14 _ _ _ _ _ (by omega) (by omega) (by omega) (hne) (by rw [hn, z14_eq]; exact lnum_go (by omega) (by omega) (by first | (rw [stp_hi (by omega)]; done) | (rw [stp_hi (by omega)]; omega) | (rw [stp_lo (by omega)]; omega))) (by omega) (hK.sub [0] rfl) (hP.sub [0, 1, 2] rfl) (hD.sub [0, 1, 2] (by decide) rfl) hS (lv_sub hl [3, 4, 5, 6, 1, 0] rfl)
          · skip
            refine lv_aload_n hx hb dX1_decodeLongNumber_70 rfl (lv_at hl 2 rfl) ?_
            refine lv_lload hx hb dX1_decodeLongNumber_71 (lv_at hl 0 rfl) ?_
            refine lv_ldc2 (v := lI 2147483647) hx hb hown (hT _ wd329) dX1_decodeLongNumber_73 ?_
            refine li_lcmp_le (tgt := 84) hx hb (by omega) (by omega) dX1_decodeLongNumber_76 dX1_decodeLongNumber_77 (by decide) (fun c15 => ?_) (fun c15 => ?_)
            · skip
              refine lv_lload hx hb dX1_decodeLongNumber_84 (lv_at hl 0 rfl) ?_
              refine li_l2i hx hb dX1_decodeLongNumber_86 ?_
              refine va_put (D := (dC, dI)) (ci := 1) (v := .int (iI a)) (ty := .int) (C := RX1) (T := TX1) (N := 6) hx hb hT inX1 tyX1 tyX1_ok nX1 hown hK hP hD hS 0 rfl rfl 2 (by decide) (hT _ wd82) (fun _ h9 => h9) rfl (by decide +kernel) rfl rfl (Nat.le_of_ble_eq_true rfl) dX1_decodeLongNumber_87 (fun H locs hP hD hS => ?_)
              have hP : va_P (dC, dI) vwCl [(h, .inr (1, [.int (iI kd), .int (iI cs), .int (iI a), .int (iI op), .int (iI sz1), .int (iI ct)])), (b, .inr (0, [.ref r, .int (iI z)])), (r, .inl (cA, w, .inl (fun j => bI (t j))))] H := hP
              have hD : va_D A [(h, .inr (1, [.int (iI kd), .int (iI cs), .int (iI a), .int (iI op), .int (iI sz1), .int (iI ct)])), (b, .inr (0, [.ref r, .int (iI z)])), (r, .inl (cA, w, .inl (fun j => bI (t j))))] := hD
              refine lv_lload hx hb dX1_decodeLongNumber_90 (lv_at hl 0 rfl) ?_
              refine lv_ldc2 (v := lI 31) hx hb hown (hT _ wd331) dX1_decodeLongNumber_92 ?_
              refine li_lcmp_ge (tgt := 103) hx hb (by omega) (by omega) dX1_decodeLongNumber_95 dX1_decodeLongNumber_96 (by decide) (fun c16 => ?_) (fun c16 => ?_)
              · skip
                refine lv_iload hx hb dX1_decodeLongNumber_103 (lv_at hl 6 rfl) ?_
                refine lv_iconst (v := iI 1) hx hb dX1_decodeLongNumber_105 rfl ?_
                refine li_iadd hx hb dX1_decodeLongNumber_106 ?_
                subst hQ9
                have hP9 := hP.sub (ws' := [(h, .inr (1, [.int (iI kd), .int (iI cs), .int (iI a), .int (iI op), .int (iI sz1), .int (iI ct)])), (b, .inr (0, [.ref r, .int (iI z)])), (r, .inl (cA, w, .inl (fun j => bI (t j))))]) [0, 1, 2] rfl
                have hD9 := hD.sub (ws' := [(h, .inr (1, [.int (iI kd), .int (iI cs), .int (iI a), .int (iI op), .int (iI sz1), .int (iI ct)])), (b, .inr (0, [.ref r, .int (iI z)])), (r, .inl (cA, w, .inl (fun j => bI (t j))))]) [0, 1, 2] (by decide) rfl
                have hK9 := hK.sub (tys' := [(cA, .byte)]) [0] rfl
                exact mv_iret hx hb hr hlocks (fun tS ht hW => ⟨⟨_, (a, (j + 1)), rfl, ⟨rfl, Or.inr ⟨lgn_hi (a := a) hne (by rw [hn]; exact lnum_end (by omega) (by omega) (by first | (rw [stp_hi (by omega)]; done) | (rw [stp_hi (by omega)]; omega) | (rw [stp_lo (by omega)]; omega))) (by omega) (by first | (rw [if_pos (by omega)]; done) | (rw [if_neg (by omega)]; done)), by omega, by omega, by omega, by omega⟩, by omega, by omega⟩, by rw [ht]; exact hP9, va_K.moved hW.alike hK9, hD9⟩, hS.F ht⟩) hS.2.2 dX1_decodeLongNumber_107
              · skip
                refine lv_iconst (v := iI (-1)) hx hb dX1_decodeLongNumber_99 rfl ?_
                refine lv_goto (tgt := 107) hx hb dX1_decodeLongNumber_100 (by decide) ?_
                subst hQ9
                have hP9 := hP.sub (ws' := [(h, .inr (1, [.int (iI kd), .int (iI cs), .int (iI a), .int (iI op), .int (iI sz1), .int (iI ct)])), (b, .inr (0, [.ref r, .int (iI z)])), (r, .inl (cA, w, .inl (fun j => bI (t j))))]) [0, 1, 2] rfl
                have hD9 := hD.sub (ws' := [(h, .inr (1, [.int (iI kd), .int (iI cs), .int (iI a), .int (iI op), .int (iI sz1), .int (iI ct)])), (b, .inr (0, [.ref r, .int (iI z)])), (r, .inl (cA, w, .inl (fun j => bI (t j))))]) [0, 1, 2] (by decide) rfl
                have hK9 := hK.sub (tys' := [(cA, .byte)]) [0] rfl
                exact mv_iret hx hb hr hlocks (fun tS ht hW => ⟨⟨_, (a, (-1)), rfl, ⟨rfl, Or.inl ⟨lgn_lo (a := a) hne (by rw [hn]; exact lnum_end (by omega) (by omega) (by first | (rw [stp_hi (by omega)]; done) | (rw [stp_hi (by omega)]; omega) | (rw [stp_lo (by omega)]; omega))) (by omega), rfl⟩, by omega, by omega⟩, by rw [ht]; exact hP9, va_K.moved hW.alike hK9, hD9⟩, hS.F ht⟩) hS.2.2 dX1_decodeLongNumber_107
            · skip
              refine lv_iconst (v := iI (-1)) hx hb dX1_decodeLongNumber_80 rfl ?_
              refine lv_goto (tgt := 87) hx hb dX1_decodeLongNumber_81 (by decide) ?_
              refine va_put (D := (dC, dI)) (ci := 1) (v := .int (iI (-1))) (ty := .int) (C := RX1) (T := TX1) (N := 6) hx hb hT inX1 tyX1 tyX1_ok nX1 hown hK hP hD hS 0 rfl rfl 2 (by decide) (hT _ wd82) (fun _ h9 => h9) rfl (by decide +kernel) rfl rfl (Nat.le_of_ble_eq_true rfl) dX1_decodeLongNumber_87 (fun H locs hP hD hS => ?_)
              have hP : va_P (dC, dI) vwCl [(h, .inr (1, [.int (iI kd), .int (iI cs), .int (iI (-1)), .int (iI op), .int (iI sz1), .int (iI ct)])), (b, .inr (0, [.ref r, .int (iI z)])), (r, .inl (cA, w, .inl (fun j => bI (t j))))] H := hP
              have hD : va_D A [(h, .inr (1, [.int (iI kd), .int (iI cs), .int (iI (-1)), .int (iI op), .int (iI sz1), .int (iI ct)])), (b, .inr (0, [.ref r, .int (iI z)])), (r, .inl (cA, w, .inl (fun j => bI (t j))))] := hD
              refine lv_lload hx hb dX1_decodeLongNumber_90 (lv_at hl 0 rfl) ?_
              refine lv_ldc2 (v := lI 31) hx hb hown (hT _ wd331) dX1_decodeLongNumber_92 ?_
              refine li_lcmp_ge (tgt := 103) hx hb (by omega) (by omega) dX1_decodeLongNumber_95 dX1_decodeLongNumber_96 (by decide) (fun c17 => ?_) (fun c17 => ?_)
              · skip
                refine lv_iload hx hb dX1_decodeLongNumber_103 (lv_at hl 6 rfl) ?_
                refine lv_iconst (v := iI 1) hx hb dX1_decodeLongNumber_105 rfl ?_
                refine li_iadd hx hb dX1_decodeLongNumber_106 ?_
                subst hQ9
                have hP9 := hP.sub (ws' := [(h, .inr (1, [.int (iI kd), .int (iI cs), .int (iI (-1)), .int (iI op), .int (iI sz1), .int (iI ct)])), (b, .inr (0, [.ref r, .int (iI z)])), (r, .inl (cA, w, .inl (fun j => bI (t j))))]) [0, 1, 2] rfl
                have hD9 := hD.sub (ws' := [(h, .inr (1, [.int (iI kd), .int (iI cs), .int (iI (-1)), .int (iI op), .int (iI sz1), .int (iI ct)])), (b, .inr (0, [.ref r, .int (iI z)])), (r, .inl (cA, w, .inl (fun j => bI (t j))))]) [0, 1, 2] (by decide) rfl
                have hK9 := hK.sub (tys' := [(cA, .byte)]) [0] rfl
                exact mv_iret hx hb hr hlocks (fun tS ht hW => ⟨⟨_, ((-1), (j + 1)), rfl, ⟨rfl, Or.inr ⟨lgn_hi (a := a) hne (by rw [hn]; exact lnum_end (by omega) (by omega) (by first | (rw [stp_hi (by omega)]; done) | (rw [stp_hi (by omega)]; omega) | (rw [stp_lo (by omega)]; omega))) (by omega) (by first | (rw [if_pos (by omega)]; done) | (rw [if_neg (by omega)]; done)), by omega, by omega, by omega, by omega⟩, by omega, by omega⟩, by rw [ht]; exact hP9, va_K.moved hW.alike hK9, hD9⟩, hS.F ht⟩) hS.2.2 dX1_decodeLongNumber_107
              · skip
                refine lv_iconst (v := iI (-1)) hx hb dX1_decodeLongNumber_99 rfl ?_
                refine lv_goto (tgt := 107) hx hb dX1_decodeLongNumber_100 (by decide) ?_
                subst hQ9
                have hP9 := hP.sub (ws' := [(h, .inr (1, [.int (iI kd), .int (iI cs), .int (iI (-1)), .int (iI op), .int (iI sz1), .int (iI ct)])), (b, .inr (0, [.ref r, .int (iI z)])), (r, .inl (cA, w, .inl (fun j => bI (t j))))]) [0, 1, 2] rfl
                have hD9 := hD.sub (ws' := [(h, .inr (1, [.int (iI kd), .int (iI cs), .int (iI (-1)), .int (iI op), .int (iI sz1), .int (iI ct)])), (b, .inr (0, [.ref r, .int (iI z)])), (r, .inl (cA, w, .inl (fun j => bI (t j))))]) [0, 1, 2] (by decide) rfl
                have hK9 := hK.sub (tys' := [(cA, .byte)]) [0] rfl
                exact mv_iret hx hb hr hlocks (fun tS ht hW => ⟨⟨_, ((-1), (-1)), rfl, ⟨rfl, Or.inl ⟨lgn_lo (a := a) hne (by rw [hn]; exact lnum_end (by omega) (by omega) (by first | (rw [stp_hi (by omega)]; done) | (rw [stp_hi (by omega)]; omega) | (rw [stp_lo (by omega)]; omega))) (by omega), rfl⟩, by omega, by omega⟩, by rw [ht]; exact hP9, va_K.moved hW.alike hK9, hD9⟩, hS.F ht⟩) hS.2.2 dX1_decodeLongNumber_107
  refine lv_aload_n hx hb dX1_decodeLongNumber_0 rfl (lv_at hl 1 rfl) ?_
  refine lv_iload_n hx hb dX1_decodeLongNumber_1 rfl (lv_at hl 2 rfl) ?_
  have hPc := hP.sub (ws' := [(b, .inr (0, [.ref r, .int (iI z)])), (r, .inl (cA, w, .inl (fun j => bI (t j))))]) [1, 2] rfl
  have hDc := hD.sub (ws' := [(b, .inr (0, [.ref r, .int (iI z)])), (r, .inl (cA, w, .inl (fun j => bI (t j))))]) [1, 2] (by decide) rfl
  have hKc := hK.sub (tys' := [(cA, .byte)]) [0] rfl
  have hFc := va_free (wc := [(b, .inr (0, [.ref r, .int (iI z)])), (r, .inl (cA, w, .inl (fun j => bI (t j))))]) hD hS hA [1, 2] rfl
  refine mv_call (mv_runV (As := [.int (iI i)]) (rest := []) ⟨hx, hb, hml, hown, hT⟩ (c_B_at l dC dI s.heap.size b r cA w t z L i (hok) (by omega)) (cwV 1 hT (gV wd321 wd322 wd323 wd27 wd324) rfl rfl rfl (by decide +kernel) ⟨show 0 + 1 ≤ 1 from by omega, show 8 + (2 + 11) + 0 ≤ 40 from by omega⟩) ⟨fun a U g mk q => by obtain ⟨q0, q1, qP, qK, qD⟩ := q; exact ⟨q0, q1, qP, va_K.moved (u := U) (U := U.calling g mk a) (Vm.Alike.refl U.vm) qK, qD⟩, va_recv hKc hPc (ci := 0) (q0 := 0) rfl rfl, fun U hU hW => ⟨rfl, by rw [hU], by rw [hU]; exact hPc, va_K.moved hW.alike hKc, hDc.weaken (fun _ _ _ _ => trivial)⟩⟩ rfl rfl hl.1 rfl (lv_room (Nat.le_of_ble_eq_true rfl)) dX1_decodeLongNumber_2 ⟨show 0 + 0 ≤ 0 from by omega, show 0 + 0 ≤ 0 from by omega⟩) hS (fun q _ h => hFc q h) hFc (fun v20 u k18 n19 tS H1 locs ht hvm hw hB hz1 hk1 hS => ?_)
  obtain ⟨hP1, hK1, hD1⟩ := hB
  rw [ht] at hP1
  have hK1 := va_K.moved hvm.symm hK1
  try dsimp only at hw
  obtain ⟨hP, hD⟩ := va_join (wr := [(h, .inr (1, [.int (iI kd), .int (iI cs), .int (iI tg), .int (iI op), .int (iI sz1), .int (iI ct)]))]) (w1 := [(b, .inr (0, [.ref r, .int (iI z)])), (r, .inl (cA, w, .inl (fun j => bI (t j))))]) hP hD [1, 2] [0] rfl rfl (by decide) (by decide) hk1 hFc hP1 hD1
  have hK := (hK.sub (tys' := []) [] rfl).app hK1
  generalize H1 = H at hP hS ⊢
  have hP : va_P (dC, dI) vwCl [(h, .inr (1, [.int (iI kd), .int (iI cs), .int (iI tg), .int (iI op), .int (iI sz1), .int (iI ct)])), (b, .inr (0, [.ref r, .int (iI z)])), (r, .inl (cA, w, .inl (fun j => bI (t j))))] H := hP
  have hD : va_D A [(h, .inr (1, [.int (iI kd), .int (iI cs), .int (iI tg), .int (iI op), .int (iI sz1), .int (iI ct)])), (b, .inr (0, [.ref r, .int (iI z)])), (r, .inl (cA, w, .inl (fun j => bI (t j))))] := hD
  have hK : va_K (dC, dI) vwCl [(cA, .byte)] s := hK
  obtain ⟨rfl, rfl, rfl⟩ := hw
  refine W.eq (g2 := F0 m 5 ls [.int (iI (gd L i))]) rfl ?_
  refine lv_bipush (v := iI 127) hx hb dX1_decodeLongNumber_5 (by decide +kernel) ?_
  refine li_iand127 hx hb dX1_decodeLongNumber_7 ?_
  refine li_if_ne (tgt := 13) hx hb (by omega) dX1_decodeLongNumber_8 (by decide) (fun c21 => ?_) (fun c21 => ?_)
  · skip
    refine lv_lconst (v := lI 0) hx hb dX1_decodeLongNumber_13 (by decide +kernel) ?_
    refine lv_lstore (lv' := [(4, .long (lI 0)), (0, .ref h), (1, .ref b), (2, .int (iI i)), (3, .int (iI x))]) hx hb dX1_decodeLongNumber_14 hl (by decide) rfl (fun ls hl => ?_)
    refine lv_iload_n hx hb dX1_decodeLongNumber_16 rfl (lv_at hl 3 rfl) ?_
    refine lv_istore (lv' := [(6, .int (iI i)), (4, .long (lI 0)), (0, .ref h), (1, .ref b), (2, .int (iI i)), (3, .int (iI x))]) hx hb dX1_decodeLongNumber_17 hl (by decide) rfl (fun ls hl => ?_)
    exact LP (10000) 0 i _ _ _ _ _ (by omega) (by omega) (by omega) (c21) (rfl) (by omega) (hK.sub [0] rfl) (hP.sub [0, 1, 2] rfl) (hD.sub [0, 1, 2] (by decide) rfl) hS (lv_sub hl [2, 3, 4, 5, 1, 0] rfl)
  · skip
    refine lv_iconst (v := iI (-1)) hx hb dX1_decodeLongNumber_11 rfl ?_
    subst hQ9
    have hP9 := hP.sub (ws' := [(h, .inr (1, [.int (iI kd), .int (iI cs), .int (iI tg), .int (iI op), .int (iI sz1), .int (iI ct)])), (b, .inr (0, [.ref r, .int (iI z)])), (r, .inl (cA, w, .inl (fun j => bI (t j))))]) [0, 1, 2] rfl
    have hD9 := hD.sub (ws' := [(h, .inr (1, [.int (iI kd), .int (iI cs), .int (iI tg), .int (iI op), .int (iI sz1), .int (iI ct)])), (b, .inr (0, [.ref r, .int (iI z)])), (r, .inl (cA, w, .inl (fun j => bI (t j))))]) [0, 1, 2] (by decide) rfl
    have hK9 := hK.sub (tys' := [(cA, .byte)]) [0] rfl
    exact mv_iret hx hb hr hlocks (fun tS ht hW => ⟨⟨_, (tg, (-1)), rfl, ⟨rfl, Or.inl ⟨lgn_0 c21, rfl⟩, by omega, by omega⟩, by rw [ht]; exact hP9, va_K.moved hW.alike hK9, hD9⟩, hS.F ht⟩) hS.2.2 dX1_decodeLongNumber_12
set_option maxHeartbeats 4000000 in
set_option maxRecDepth 100000 in
theorem c_H_idn (l : Launch) (dC : Nat → ClassId) (dI : Nat → Nat → Nat) (sz : Nat) (h : Nat) (kd : Int) (cs : Int) (tg : Int) (op : Int) (sz1 : Int) (ct : Int) (b : Nat) (r : Nat) (cA : ClassId) (w : Nat) (t : Nat → Int) (z : Int) (L : List Int) (i : Int) (x : Int) (hok : okB w t z L) (hi : 0 ≤ i ∧ i ≤ 5000) (hx4 : 0 ≤ x ∧ x ≤ 4096) : mv_Met l yX1_decodeIdentifier wsX1_decodeIdentifier ({ frames := 2, cells := 0, slots := 0, locals := 70 }) (va_Pc [.ref h, .ref b, .int (iI i), .int (iI x)] (fun U => U.heap.size = sz ∧ va_P (dC, dI) vwCl [(h, .inr (1, [.int (iI kd), .int (iI cs), .int (iI tg), .int (iI op), .int (iI sz1), .int (iI ct)])), (b, .inr (0, [.ref r, .int (iI z)])), (r, .inl (cA, w, .inl (fun j => bI (t j))))] U.heap ∧ va_K (dC, dI) vwCl [(cA, .byte)] U ∧ va_D (fun _ => True) [(h, .inr (1, [.int (iI kd), .int (iI cs), .int (iI tg), .int (iI op), .int (iI sz1), .int (iI ct)])), (b, .inr (0, [.ref r, .int (iI z)])), (r, .inl (cA, w, .inl (fun j => bI (t j))))])) (mv_Q (fun (v : Option Value) (u : Int × Int × Int × Int) (k n : Nat) => match u with | (kd', cs', tg', q') => v = some (.int (iI q')) ∧ (idn (gd L) i x = none ∧ q' = -1 ∨ idn (gd L) i x = some (kd', cs', tg', q') ∧ i < q' ∧ q' ≤ x ∧ 0 ≤ kd' ∧ kd' ≤ 3 ∧ (cs' = 0 ∨ cs' = 1) ∧ -1 ≤ tg' ∧ tg' ≤ 2147483647) ∧ k = 0 ∧ n = 0) (fun (u : Int × Int × Int × Int) (tS : State) => match u with | (kd', cs', tg', q') => va_P (dC, dI) vwCl [(h, .inr (1, [.int (iI kd'), .int (iI cs'), .int (iI tg'), .int (iI op), .int (iI sz1), .int (iI ct)])), (b, .inr (0, [.ref r, .int (iI z)])), (r, .inl (cA, w, .inl (fun j => bI (t j))))] tS.heap ∧ va_K (dC, dI) vwCl [(cA, .byte)] tS ∧ va_D (va_A [(h, .inr (1, [.int (iI kd), .int (iI cs), .int (iI tg), .int (iI op), .int (iI sz1), .int (iI ct)])), (b, .inr (0, [.ref r, .int (iI z)])), (r, .inl (cA, w, .inl (fun j => bI (t j))))] sz) [(h, .inr (1, [.int (iI kd'), .int (iI cs'), .int (iI tg'), .int (iI op), .int (iI sz1), .int (iI ct)])), (b, .inr (0, [.ref r, .int (iI z)])), (r, .inl (cA, w, .inl (fun j => bI (t j))))]) (va_A [(h, .inr (1, [.int (iI kd), .int (iI cs), .int (iI tg), .int (iI op), .int (iI sz1), .int (iI ct)])), (b, .inr (0, [.ref r, .int (iI z)])), (r, .inl (cA, w, .inl (fun j => bI (t j))))] sz)) (va_A [(h, .inr (1, [.int (iI kd), .int (iI cs), .int (iI tg), .int (iI op), .int (iI sz1), .int (iI ct)])), (b, .inr (0, [.ref r, .int (iI z)])), (r, .inl (cA, w, .inl (fun j => bI (t j))))] sz) := by
  refine mv_ofW (cc := cX1_decodeIdentifier) (maxL := 5) (ret := (some .int)) (by decide) rfl ?_
  intro p e s m args below meth c s₁ B hml hv
  obtain ⟨rfl, hsz, hP, hK, hD0⟩ := hv
  have hx := B.exec
  have hb := B.bytes
  have hr := B.returns
  have hT : ∀ w ∈ wT, w.before _ s = true := fun w h => atoms_spec (ws := wsX1_decodeIdentifier) B.pre w (List.mem_cons_of_mem _ h)
  have hown : s.vm.findClass RX1 = some m.cls := findClass_of_methodNamed B.named
  have hlocks := B.notSynchronized
  subst hsz
  have hD := hD0.self (sz := s.heap.size)
  generalize hAe : va_A [(h, .inr (1, [.int (iI kd), .int (iI cs), .int (iI tg), .int (iI op), .int (iI sz1), .int (iI ct)])), (b, .inr (0, [.ref r, .int (iI z)])), (r, .inl (cA, w, .inl (fun j => bI (t j))))] s.heap.size = A at hD ⊢
  have hA : ∀ q : Nat, s.heap.size ≤ q → A q := fun q h => by rw [← hAe]; exact Or.inr h
  have hS : va_S A s.heap s.heap [] := va_S.rf
  have hP : va_P (dC, dI) vwCl [(h, .inr (1, [.int (iI kd), .int (iI cs), .int (iI tg), .int (iI op), .int (iI sz1), .int (iI ct)])), (b, .inr (0, [.ref r, .int (iI z)])), (r, .inl (cA, w, .inl (fun j => bI (t j))))] s.heap := hP
  have hl := lv_entry ([.ref h, .ref b, .int (iI i), .int (iI x)]) (n := 5) (Nat.le_of_ble_eq_true rfl)
  rw [lg_entry_eq]
  generalize (lg_sl ([.ref h, .ref b, .int (iI i), .int (iI x)]) ++ List.replicate (5 - (lg_sl ([.ref h, .ref b, .int (iI i), .int (iI x)])).length) Slot.unset).toArray = ls at hl ⊢
  have hl : lv_has ls 5 [(0, .ref h), (1, .ref b), (2, .int (iI i)), (3, .int (iI x))] := hl
  obtain ⟨hw1, hw2, hw3, hw4, hw5, hw6⟩ := id hok
  have hg8 := gd_rng hok
  have hgi := hg8 i
  refine lv_iload_n hx hb dX1_decodeIdentifier_0 rfl (lv_at hl 2 rfl) ?_
  refine lv_iload_n hx hb dX1_decodeIdentifier_1 rfl (lv_at hl 3 rfl) ?_
  refine li_icmp_lt (tgt := 7) hx hb (by omega) (by omega) dX1_decodeIdentifier_2 (by decide) (fun c1 => ?_) (fun c1 => ?_)
  · skip
    refine lv_aload_n hx hb dX1_decodeIdentifier_7 rfl (lv_at hl 1 rfl) ?_
    refine lv_iload_n hx hb dX1_decodeIdentifier_8 rfl (lv_at hl 2 rfl) ?_
    have hPc := hP.sub (ws' := [(b, .inr (0, [.ref r, .int (iI z)])), (r, .inl (cA, w, .inl (fun j => bI (t j))))]) [1, 2] rfl
    have hDc := hD.sub (ws' := [(b, .inr (0, [.ref r, .int (iI z)])), (r, .inl (cA, w, .inl (fun j => bI (t j))))]) [1, 2] (by decide) rfl
    have hKc := hK.sub (tys' := [(cA, .byte)]) [0] rfl
    have hFc := va_free (wc := [(b, .inr (0, [.ref r, .int (iI z)])), (r, .inl (cA, w, .inl (fun j => bI (t j))))]) hD hS hA [1, 2] rfl
    refine mv_call (mv_runV (As := [.int (iI i)]) (rest := []) ⟨hx, hb, hml, hown, hT⟩ (c_B_at l dC dI s.heap.size b r cA w t z L i (hok) (by omega)) (cwV 1 hT (gV wd321 wd322 wd323 wd27 wd324) rfl rfl rfl (by decide +kernel) ⟨show 0 + 1 ≤ 2 from by omega, show 8 + (2 + 11) + 0 ≤ 70 from by omega⟩) ⟨fun a U g mk q => by obtain ⟨q0, q1, qP, qK, qD⟩ := q; exact ⟨q0, q1, qP, va_K.moved (u := U) (U := U.calling g mk a) (Vm.Alike.refl U.vm) qK, qD⟩, va_recv hKc hPc (ci := 0) (q0 := 0) rfl rfl, fun U hU hW => ⟨rfl, by rw [hU], by rw [hU]; exact hPc, va_K.moved hW.alike hKc, hDc.weaken (fun _ _ _ _ => trivial)⟩⟩ rfl rfl hl.1 rfl (lv_room (Nat.le_of_ble_eq_true rfl)) dX1_decodeIdentifier_9 ⟨show 0 + 0 ≤ 0 from by omega, show 0 + 0 ≤ 0 from by omega⟩) hS (fun q _ h => hFc q h) hFc (fun v4 u k2 n3 tS H1 locs ht hvm hw hB hz1 hk1 hS => ?_)
    obtain ⟨hP1, hK1, hD1⟩ := hB
    rw [ht] at hP1
    have hK1 := va_K.moved hvm.symm hK1
    try dsimp only at hw
    obtain ⟨hP, hD⟩ := va_join (wr := [(h, .inr (1, [.int (iI kd), .int (iI cs), .int (iI tg), .int (iI op), .int (iI sz1), .int (iI ct)]))]) (w1 := [(b, .inr (0, [.ref r, .int (iI z)])), (r, .inl (cA, w, .inl (fun j => bI (t j))))]) hP hD [1, 2] [0] rfl rfl (by decide) (by decide) hk1 hFc hP1 hD1
    have hK := (hK.sub (tys' := []) [] rfl).app hK1
    generalize H1 = H at hP hS ⊢
    have hP : va_P (dC, dI) vwCl [(h, .inr (1, [.int (iI kd), .int (iI cs), .int (iI tg), .int (iI op), .int (iI sz1), .int (iI ct)])), (b, .inr (0, [.ref r, .int (iI z)])), (r, .inl (cA, w, .inl (fun j => bI (t j))))] H := hP
    have hD : va_D A [(h, .inr (1, [.int (iI kd), .int (iI cs), .int (iI tg), .int (iI op), .int (iI sz1), .int (iI ct)])), (b, .inr (0, [.ref r, .int (iI z)])), (r, .inl (cA, w, .inl (fun j => bI (t j))))] := hD
    have hK : va_K (dC, dI) vwCl [(cA, .byte)] s := hK
    obtain ⟨rfl, rfl, rfl⟩ := hw
    refine W.eq (g2 := F0 m 12 ls [.int (iI (gd L i))]) rfl ?_
    refine li_nm (fun z5 ez5 => ?_)
    refine lv_istore (lv' := [(4, .int (iI z5)), (0, .ref h), (1, .ref b), (2, .int (iI i)), (3, .int (iI x))]) hx hb dX1_decodeIdentifier_12 hl (by decide) rfl (fun ls hl => ?_)
    refine lv_aload_n hx hb dX1_decodeIdentifier_14 rfl (lv_at hl 1 rfl) ?_
    refine lv_iload hx hb dX1_decodeIdentifier_15 (lv_at hl 0 rfl) ?_
    refine lv_bipush (v := iI 6) hx hb dX1_decodeIdentifier_17 (by decide +kernel) ?_
    refine li_ishrK hx hb 64 (by decide) (by omega) (by omega) dX1_decodeIdentifier_19 ?_
    refine li_nm (fun z6 ez6 => ?_)
    refine va_put (D := (dC, dI)) (ci := 1) (v := .int (iI z6)) (ty := .int) (C := RX1) (T := TX1) (N := 6) hx hb hT inX1 tyX1 tyX1_ok nX1 hown hK hP hD hS 0 rfl rfl 0 (by decide) (hT _ wd78) (fun _ h9 => h9) rfl (by decide +kernel) rfl rfl (Nat.le_of_ble_eq_true rfl) dX1_decodeIdentifier_20 (fun H locs hP hD hS => ?_)
    have hP : va_P (dC, dI) vwCl [(h, .inr (1, [.int (iI z6), .int (iI cs), .int (iI tg), .int (iI op), .int (iI sz1), .int (iI ct)])), (b, .inr (0, [.ref r, .int (iI z)])), (r, .inl (cA, w, .inl (fun j => bI (t j))))] H := hP
    have hD : va_D A [(h, .inr (1, [.int (iI z6), .int (iI cs), .int (iI tg), .int (iI op), .int (iI sz1), .int (iI ct)])), (b, .inr (0, [.ref r, .int (iI z)])), (r, .inl (cA, w, .inl (fun j => bI (t j))))] := hD
    refine lv_aload_n hx hb dX1_decodeIdentifier_23 rfl (lv_at hl 1 rfl) ?_
    refine lv_iload hx hb dX1_decodeIdentifier_24 (lv_at hl 0 rfl) ?_
    refine lv_bipush (v := iI 32) hx hb dX1_decodeIdentifier_26 (by decide +kernel) ?_
    refine li_iand32 hx hb (by omega) dX1_decodeIdentifier_28 ?_
    refine li_if_eq (tgt := 36) hx hb (by omega) dX1_decodeIdentifier_29 (by decide) (fun c7 => ?_) (fun c7 => ?_)
    · skip
      refine lv_iconst (v := iI 0) hx hb dX1_decodeIdentifier_36 rfl ?_
      refine va_put (D := (dC, dI)) (ci := 1) (v := .int (iI 0)) (ty := .boolean) (C := RX1) (T := TX1) (N := 6) hx hb hT inX1 tyX1 tyX1_ok nX1 hown hK hP hD hS 0 rfl rfl 1 (by decide) (hT _ wd80) (fun _ h9 => h9) rfl (by decide +kernel) (zb_n (by omega)) (zb_f (by omega)) (Nat.le_of_ble_eq_true rfl) dX1_decodeIdentifier_37 (fun H locs hP hD hS => ?_)
      have hP : va_P (dC, dI) vwCl [(h, .inr (1, [.int (iI z6), .int (iI 0), .int (iI tg), .int (iI op), .int (iI sz1), .int (iI ct)])), (b, .inr (0, [.ref r, .int (iI z)])), (r, .inl (cA, w, .inl (fun j => bI (t j))))] H := hP
      have hD : va_D A [(h, .inr (1, [.int (iI z6), .int (iI 0), .int (iI tg), .int (iI op), .int (iI sz1), .int (iI ct)])), (b, .inr (0, [.ref r, .int (iI z)])), (r, .inl (cA, w, .inl (fun j => bI (t j))))] := hD
      refine lv_aload_n hx hb dX1_decodeIdentifier_40 rfl (lv_at hl 1 rfl) ?_
      refine lv_iload hx hb dX1_decodeIdentifier_41 (lv_at hl 0 rfl) ?_
      refine lv_bipush (v := iI 31) hx hb dX1_decodeIdentifier_43 (by decide +kernel) ?_
      refine li_iand31 hx hb dX1_decodeIdentifier_45 ?_
      refine li_nm (fun z8 ez8 => ?_)
      refine va_put (D := (dC, dI)) (ci := 1) (v := .int (iI z8)) (ty := .int) (C := RX1) (T := TX1) (N := 6) hx hb hT inX1 tyX1 tyX1_ok nX1 hown hK hP hD hS 0 rfl rfl 2 (by decide) (hT _ wd82) (fun _ h9 => h9) rfl (by decide +kernel) rfl rfl (Nat.le_of_ble_eq_true rfl) dX1_decodeIdentifier_46 (fun H locs hP hD hS => ?_)
      have hP : va_P (dC, dI) vwCl [(h, .inr (1, [.int (iI z6), .int (iI 0), .int (iI z8), .int (iI op), .int (iI sz1), .int (iI ct)])), (b, .inr (0, [.ref r, .int (iI z)])), (r, .inl (cA, w, .inl (fun j => bI (t j))))] H := hP
      have hD : va_D A [(h, .inr (1, [.int (iI z6), .int (iI 0), .int (iI z8), .int (iI op), .int (iI sz1), .int (iI ct)])), (b, .inr (0, [.ref r, .int (iI z)])), (r, .inl (cA, w, .inl (fun j => bI (t j))))] := hD
      refine lv_aload_n hx hb dX1_decodeIdentifier_49 rfl (lv_at hl 1 rfl) ?_
      refine va_get (D := (dC, dI)) (ci := 1) (v := .int (iI z8)) (C := RX1) (T := TX1) (N := 6) hx hb hT inX1 hown hK hP 0 rfl rfl 2 (by decide) (hT _ wd82) (fun _ h9 => h9) rfl dX1_decodeIdentifier_50 ?_
      refine lv_bipush (v := iI 31) hx hb dX1_decodeIdentifier_53 (by decide +kernel) ?_
      refine li_icmp_ge (tgt := 64) hx hb (by omega) (by omega) dX1_decodeIdentifier_55 (by decide) (fun c9 => ?_) (fun c9 => ?_)
      · skip
        refine lv_aload_n hx hb dX1_decodeIdentifier_64 rfl (lv_at hl 1 rfl) ?_
        refine lv_aload_n hx hb dX1_decodeIdentifier_65 rfl (lv_at hl 2 rfl) ?_
        refine lv_iload_n hx hb dX1_decodeIdentifier_66 rfl (lv_at hl 3 rfl) ?_
        refine lv_iconst (v := iI 1) hx hb dX1_decodeIdentifier_67 rfl ?_
        refine li_iadd hx hb dX1_decodeIdentifier_68 ?_
        refine lv_iload_n hx hb dX1_decodeIdentifier_69 rfl (lv_at hl 4 rfl) ?_
        have hPc := hP.sub (ws' := [(h, .inr (1, [.int (iI z6), .int (iI 0), .int (iI z8), .int (iI op), .int (iI sz1), .int (iI ct)])), (b, .inr (0, [.ref r, .int (iI z)])), (r, .inl (cA, w, .inl (fun j => bI (t j))))]) [0, 1, 2] rfl
        have hDc := hD.sub (ws' := [(h, .inr (1, [.int (iI z6), .int (iI 0), .int (iI z8), .int (iI op), .int (iI sz1), .int (iI ct)])), (b, .inr (0, [.ref r, .int (iI z)])), (r, .inl (cA, w, .inl (fun j => bI (t j))))]) [0, 1, 2] (by decide) rfl
        have hKc := hK.sub (tys' := [(cA, .byte)]) [0] rfl
        have hFc := va_free (wc := [(h, .inr (1, [.int (iI z6), .int (iI 0), .int (iI z8), .int (iI op), .int (iI sz1), .int (iI ct)])), (b, .inr (0, [.ref r, .int (iI z)])), (r, .inl (cA, w, .inl (fun j => bI (t j))))]) hD hS hA [0, 1, 2] rfl
        refine mv_call (mv_runV (As := [.ref b, .int (iI (i + 1)), .int (iI x)]) (rest := []) ⟨hx, hb, hml, hown, hT⟩ (c_H_lnum l dC dI H.size h z6 0 z8 op sz1 ct b r cA w t z L (i + 1) x (hok) (by omega) (by omega)) (cwV 3 hT (gV wd325 wd327 wd6 wd29 wd328) rfl rfl rfl (by decide +kernel) ⟨show 1 + 1 ≤ 2 from by omega, show 8 + (8 + 11) + 40 ≤ 70 from by omega⟩) ⟨fun a U g mk q => by obtain ⟨q0, q1, qP, qK, qD⟩ := q; exact ⟨q0, q1, qP, va_K.moved (u := U) (U := U.calling g mk a) (Vm.Alike.refl U.vm) qK, qD⟩, va_recv hKc hPc (ci := 1) (q0 := 0) rfl rfl, fun U hU hW => ⟨rfl, by rw [hU], by rw [hU]; exact hPc, va_K.moved hW.alike hKc, hDc.weaken (fun _ _ _ _ => trivial)⟩⟩ rfl rfl hl.1 rfl (lv_room (Nat.le_of_ble_eq_true rfl)) dX1_decodeIdentifier_70 ⟨show 0 + 0 + 0 ≤ 0 from by omega, show 0 + 0 + 0 ≤ 0 from by omega⟩) hS (fun q _ h => hFc q h) hFc (fun v12 u k10 n11 tS H1 locs ht hvm hw hB hz1 hk1 hS => ?_)
        obtain ⟨tg13, q14⟩ := u
        obtain ⟨hP1, hK1, hD1⟩ := hB
        rw [ht] at hP1
        have hK1 := va_K.moved hvm.symm hK1
        try dsimp only at hw
        obtain ⟨hP, hD⟩ := va_join (wr := []) (w1 := [(h, .inr (1, [.int (iI z6), .int (iI 0), .int (iI tg13), .int (iI op), .int (iI sz1), .int (iI ct)])), (b, .inr (0, [.ref r, .int (iI z)])), (r, .inl (cA, w, .inl (fun j => bI (t j))))]) hP hD [0, 1, 2] [] rfl rfl (by decide) (by decide) hk1 hFc hP1 hD1
        have hK := (hK.sub (tys' := []) [] rfl).app hK1
        generalize H1 = H at hP hS ⊢
        have hP : va_P (dC, dI) vwCl [(h, .inr (1, [.int (iI z6), .int (iI 0), .int (iI tg13), .int (iI op), .int (iI sz1), .int (iI ct)])), (b, .inr (0, [.ref r, .int (iI z)])), (r, .inl (cA, w, .inl (fun j => bI (t j))))] H := hP
        have hD : va_D A [(h, .inr (1, [.int (iI z6), .int (iI 0), .int (iI tg13), .int (iI op), .int (iI sz1), .int (iI ct)])), (b, .inr (0, [.ref r, .int (iI z)])), (r, .inl (cA, w, .inl (fun j => bI (t j))))] := hD
        have hK : va_K (dC, dI) vwCl [(cA, .byte)] s := hK
        obtain ⟨rfl, hqv12, rfl, rfl⟩ := hw
        refine W.eq (g2 := F0 m 73 ls [.int (iI q14)]) rfl ?_
        rcases hqv12 with ⟨h1, h2⟩ | ⟨h1, h2, h3, h4, h5⟩
        · skip
          have hP9 := hP.sub (ws' := [(h, .inr (1, [.int (iI z6), .int (iI 0), .int (iI tg13), .int (iI op), .int (iI sz1), .int (iI ct)])), (b, .inr (0, [.ref r, .int (iI z)])), (r, .inl (cA, w, .inl (fun j => bI (t j))))]) [0, 1, 2] rfl
          have hD9 := hD.sub (ws' := [(h, .inr (1, [.int (iI z6), .int (iI 0), .int (iI tg13), .int (iI op), .int (iI sz1), .int (iI ct)])), (b, .inr (0, [.ref r, .int (iI z)])), (r, .inl (cA, w, .inl (fun j => bI (t j))))]) [0, 1, 2] (by decide) rfl
          have hK9 := hK.sub (tys' := [(cA, .byte)]) [0] rfl
          exact mv_iret hx hb hr hlocks (fun tS ht hW => ⟨⟨_, (z6, 0, tg13, q14), rfl, ⟨rfl, Or.inl ⟨idn_l0 (by omega) (by omega) h1, h2⟩, rfl, rfl⟩, by rw [ht]; exact hP9, va_K.moved hW.alike hK9, hD9⟩, hS.F ht⟩) hS.2.2 dX1_decodeIdentifier_73
        · skip
          have hP9 := hP.sub (ws' := [(h, .inr (1, [.int (iI z6), .int (iI 0), .int (iI tg13), .int (iI op), .int (iI sz1), .int (iI ct)])), (b, .inr (0, [.ref r, .int (iI z)])), (r, .inl (cA, w, .inl (fun j => bI (t j))))]) [0, 1, 2] rfl
          have hD9 := hD.sub (ws' := [(h, .inr (1, [.int (iI z6), .int (iI 0), .int (iI tg13), .int (iI op), .int (iI sz1), .int (iI ct)])), (b, .inr (0, [.ref r, .int (iI z)])), (r, .inl (cA, w, .inl (fun j => bI (t j))))]) [0, 1, 2] (by decide) rfl
          have hK9 := hK.sub (tys' := [(cA, .byte)]) [0] rfl
          exact mv_iret hx hb hr hlocks (fun tS ht hW => ⟨⟨_, (z6, 0, tg13, q14), rfl, ⟨rfl, Or.inr ⟨idn_l1 (by omega) (by omega) h1 (by omega) (by omega), by omega, by omega, by omega⟩, rfl, rfl⟩, by rw [ht]; exact hP9, va_K.moved hW.alike hK9, hD9⟩, hS.F ht⟩) hS.2.2 dX1_decodeIdentifier_73
      · skip
        refine lv_iload_n hx hb dX1_decodeIdentifier_58 rfl (lv_at hl 3 rfl) ?_
        refine lv_iconst (v := iI 1) hx hb dX1_decodeIdentifier_59 rfl ?_
        refine li_iadd hx hb dX1_decodeIdentifier_60 ?_
        refine lv_goto (tgt := 73) hx hb dX1_decodeIdentifier_61 (by decide) ?_
        have hP9 := hP.sub (ws' := [(h, .inr (1, [.int (iI z6), .int (iI 0), .int (iI z8), .int (iI op), .int (iI sz1), .int (iI ct)])), (b, .inr (0, [.ref r, .int (iI z)])), (r, .inl (cA, w, .inl (fun j => bI (t j))))]) [0, 1, 2] rfl
        have hD9 := hD.sub (ws' := [(h, .inr (1, [.int (iI z6), .int (iI 0), .int (iI z8), .int (iI op), .int (iI sz1), .int (iI ct)])), (b, .inr (0, [.ref r, .int (iI z)])), (r, .inl (cA, w, .inl (fun j => bI (t j))))]) [0, 1, 2] (by decide) rfl
        have hK9 := hK.sub (tys' := [(cA, .byte)]) [0] rfl
        exact mv_iret hx hb hr hlocks (fun tS ht hW => ⟨⟨_, (z6, 0, z8, (i + 1)), rfl, ⟨rfl, Or.inr ⟨idn_s (by omega) (by omega) (by omega) (by omega) (by omega), by omega, by omega, by omega⟩, rfl, rfl⟩, by rw [ht]; exact hP9, va_K.moved hW.alike hK9, hD9⟩, hS.F ht⟩) hS.2.2 dX1_decodeIdentifier_73
    · skip
      refine lv_iconst (v := iI 1) hx hb dX1_decodeIdentifier_32 rfl ?_
      refine lv_goto (tgt := 37) hx hb dX1_decodeIdentifier_33 (by decide) ?_
      refine va_put (D := (dC, dI)) (ci := 1) (v := .int (iI 1)) (ty := .boolean) (C := RX1) (T := TX1) (N := 6) hx hb hT inX1 tyX1 tyX1_ok nX1 hown hK hP hD hS 0 rfl rfl 1 (by decide) (hT _ wd80) (fun _ h9 => h9) rfl (by decide +kernel) (zb_n (by omega)) (zb_f (by omega)) (Nat.le_of_ble_eq_true rfl) dX1_decodeIdentifier_37 (fun H locs hP hD hS => ?_)
      have hP : va_P (dC, dI) vwCl [(h, .inr (1, [.int (iI z6), .int (iI 1), .int (iI tg), .int (iI op), .int (iI sz1), .int (iI ct)])), (b, .inr (0, [.ref r, .int (iI z)])), (r, .inl (cA, w, .inl (fun j => bI (t j))))] H := hP
      have hD : va_D A [(h, .inr (1, [.int (iI z6), .int (iI 1), .int (iI tg), .int (iI op), .int (iI sz1), .int (iI ct)])), (b, .inr (0, [.ref r, .int (iI z)])), (r, .inl (cA, w, .inl (fun j => bI (t j))))] := hD
      refine lv_aload_n hx hb dX1_decodeIdentifier_40 rfl (lv_at hl 1 rfl) ?_
      refine lv_iload hx hb dX1_decodeIdentifier_41 (lv_at hl 0 rfl) ?_
      refine lv_bipush (v := iI 31) hx hb dX1_decodeIdentifier_43 (by decide +kernel) ?_
      refine li_iand31 hx hb dX1_decodeIdentifier_45 ?_
      refine li_nm (fun z15 ez15 => ?_)
      refine va_put (D := (dC, dI)) (ci := 1) (v := .int (iI z15)) (ty := .int) (C := RX1) (T := TX1) (N := 6) hx hb hT inX1 tyX1 tyX1_ok nX1 hown hK hP hD hS 0 rfl rfl 2 (by decide) (hT _ wd82) (fun _ h9 => h9) rfl (by decide +kernel) rfl rfl (Nat.le_of_ble_eq_true rfl) dX1_decodeIdentifier_46 (fun H locs hP hD hS => ?_)
      have hP : va_P (dC, dI) vwCl [(h, .inr (1, [.int (iI z6), .int (iI 1), .int (iI z15), .int (iI op), .int (iI sz1), .int (iI ct)])), (b, .inr (0, [.ref r, .int (iI z)])), (r, .inl (cA, w, .inl (fun j => bI (t j))))] H := hP
      have hD : va_D A [(h, .inr (1, [.int (iI z6), .int (iI 1), .int (iI z15), .int (iI op), .int (iI sz1), .int (iI ct)])), (b, .inr (0, [.ref r, .int (iI z)])), (r, .inl (cA, w, .inl (fun j => bI (t j))))] := hD
      refine lv_aload_n hx hb dX1_decodeIdentifier_49 rfl (lv_at hl 1 rfl) ?_
      refine va_get (D := (dC, dI)) (ci := 1) (v := .int (iI z15)) (C := RX1) (T := TX1) (N := 6) hx hb hT inX1 hown hK hP 0 rfl rfl 2 (by decide) (hT _ wd82) (fun _ h9 => h9) rfl dX1_decodeIdentifier_50 ?_
      refine lv_bipush (v := iI 31) hx hb dX1_decodeIdentifier_53 (by decide +kernel) ?_
      refine li_icmp_ge (tgt := 64) hx hb (by omega) (by omega) dX1_decodeIdentifier_55 (by decide) (fun c16 => ?_) (fun c16 => ?_)
      · skip
        refine lv_aload_n hx hb dX1_decodeIdentifier_64 rfl (lv_at hl 1 rfl) ?_
        refine lv_aload_n hx hb dX1_decodeIdentifier_65 rfl (lv_at hl 2 rfl) ?_
        refine lv_iload_n hx hb dX1_decodeIdentifier_66 rfl (lv_at hl 3 rfl) ?_
        refine lv_iconst (v := iI 1) hx hb dX1_decodeIdentifier_67 rfl ?_
        refine li_iadd hx hb dX1_decodeIdentifier_68 ?_
        refine lv_iload_n hx hb dX1_decodeIdentifier_69 rfl (lv_at hl 4 rfl) ?_
        have hPc := hP.sub (ws' := [(h, .inr (1, [.int (iI z6), .int (iI 1), .int (iI z15), .int (iI op), .int (iI sz1), .int (iI ct)])), (b, .inr (0, [.ref r, .int (iI z)])), (r, .inl (cA, w, .inl (fun j => bI (t j))))]) [0, 1, 2] rfl
        have hDc := hD.sub (ws' := [(h, .inr (1, [.int (iI z6), .int (iI 1), .int (iI z15), .int (iI op), .int (iI sz1), .int (iI ct)])), (b, .inr (0, [.ref r, .int (iI z)])), (r, .inl (cA, w, .inl (fun j => bI (t j))))]) [0, 1, 2] (by decide) rfl
        have hKc := hK.sub (tys' := [(cA, .byte)]) [0] rfl
        have hFc := va_free (wc := [(h, .inr (1, [.int (iI z6), .int (iI 1), .int (iI z15), .int (iI op), .int (iI sz1), .int (iI ct)])), (b, .inr (0, [.ref r, .int (iI z)])), (r, .inl (cA, w, .inl (fun j => bI (t j))))]) hD hS hA [0, 1, 2] rfl
        refine mv_call (mv_runV (As := [.ref b, .int (iI (i + 1)), .int (iI x)]) (rest := []) ⟨hx, hb, hml, hown, hT⟩ (c_H_lnum l dC dI H.size h z6 1 z15 op sz1 ct b r cA w t z L (i + 1) x (hok) (by omega) (by omega)) (cwV 3 hT (gV wd325 wd327 wd6 wd29 wd328) rfl rfl rfl (by decide +kernel) ⟨show 1 + 1 ≤ 2 from by omega, show 8 + (8 + 11) + 40 ≤ 70 from by omega⟩) ⟨fun a U g mk q => by obtain ⟨q0, q1, qP, qK, qD⟩ := q; exact ⟨q0, q1, qP, va_K.moved (u := U) (U := U.calling g mk a) (Vm.Alike.refl U.vm) qK, qD⟩, va_recv hKc hPc (ci := 1) (q0 := 0) rfl rfl, fun U hU hW => ⟨rfl, by rw [hU], by rw [hU]; exact hPc, va_K.moved hW.alike hKc, hDc.weaken (fun _ _ _ _ => trivial)⟩⟩ rfl rfl hl.1 rfl (lv_room (Nat.le_of_ble_eq_true rfl)) dX1_decodeIdentifier_70 ⟨show 0 + 0 + 0 ≤ 0 from by omega, show 0 + 0 + 0 ≤ 0 from by omega⟩) hS (fun q _ h => hFc q h) hFc (fun v19 u k17 n18 tS H1 locs ht hvm hw hB hz1 hk1 hS => ?_)
        obtain ⟨tg20, q21⟩ := u
        obtain ⟨hP1, hK1, hD1⟩ := hB
        rw [ht] at hP1
        have hK1 := va_K.moved hvm.symm hK1
        try dsimp only at hw
        obtain ⟨hP, hD⟩ := va_join (wr := []) (w1 := [(h, .inr (1, [.int (iI z6), .int (iI 1), .int (iI tg20), .int (iI op), .int (iI sz1), .int (iI ct)])), (b, .inr (0, [.ref r, .int (iI z)])), (r, .inl (cA, w, .inl (fun j => bI (t j))))]) hP hD [0, 1, 2] [] rfl rfl (by decide) (by decide) hk1 hFc hP1 hD1
        have hK := (hK.sub (tys' := []) [] rfl).app hK1
        generalize H1 = H at hP hS ⊢
        have hP : va_P (dC, dI) vwCl [(h, .inr (1, [.int (iI z6), .int (iI 1), .int (iI tg20), .int (iI op), .int (iI sz1), .int (iI ct)])), (b, .inr (0, [.ref r, .int (iI z)])), (r, .inl (cA, w, .inl (fun j => bI (t j))))] H := hP
        have hD : va_D A [(h, .inr (1, [.int (iI z6), .int (iI 1), .int (iI tg20), .int (iI op), .int (iI sz1), .int (iI ct)])), (b, .inr (0, [.ref r, .int (iI z)])), (r, .inl (cA, w, .inl (fun j => bI (t j))))] := hD
        have hK : va_K (dC, dI) vwCl [(cA, .byte)] s := hK
        obtain ⟨rfl, hqv19, rfl, rfl⟩ := hw
        refine W.eq (g2 := F0 m 73 ls [.int (iI q21)]) rfl ?_
        rcases hqv19 with ⟨h1, h2⟩ | ⟨h1, h2, h3, h4, h5⟩
        · skip
          have hP9 := hP.sub (ws' := [(h, .inr (1, [.int (iI z6), .int (iI 1), .int (iI tg20), .int (iI op), .int (iI sz1), .int (iI ct)])), (b, .inr (0, [.ref r, .int (iI z)])), (r, .inl (cA, w, .inl (fun j => bI (t j))))]) [0, 1, 2] rfl
          have hD9 := hD.sub (ws' := [(h, .inr (1, [.int (iI z6), .int (iI 1), .int (iI tg20), .int (iI op), .int (iI sz1), .int (iI ct)])), (b, .inr (0, [.ref r, .int (iI z)])), (r, .inl (cA, w, .inl (fun j => bI (t j))))]) [0, 1, 2] (by decide) rfl
          have hK9 := hK.sub (tys' := [(cA, .byte)]) [0] rfl
          exact mv_iret hx hb hr hlocks (fun tS ht hW => ⟨⟨_, (z6, 1, tg20, q21), rfl, ⟨rfl, Or.inl ⟨idn_l0 (by omega) (by omega) h1, h2⟩, rfl, rfl⟩, by rw [ht]; exact hP9, va_K.moved hW.alike hK9, hD9⟩, hS.F ht⟩) hS.2.2 dX1_decodeIdentifier_73
        · skip
          have hP9 := hP.sub (ws' := [(h, .inr (1, [.int (iI z6), .int (iI 1), .int (iI tg20), .int (iI op), .int (iI sz1), .int (iI ct)])), (b, .inr (0, [.ref r, .int (iI z)])), (r, .inl (cA, w, .inl (fun j => bI (t j))))]) [0, 1, 2] rfl
          have hD9 := hD.sub (ws' := [(h, .inr (1, [.int (iI z6), .int (iI 1), .int (iI tg20), .int (iI op), .int (iI sz1), .int (iI ct)])), (b, .inr (0, [.ref r, .int (iI z)])), (r, .inl (cA, w, .inl (fun j => bI (t j))))]) [0, 1, 2] (by decide) rfl
          have hK9 := hK.sub (tys' := [(cA, .byte)]) [0] rfl
          exact mv_iret hx hb hr hlocks (fun tS ht hW => ⟨⟨_, (z6, 1, tg20, q21), rfl, ⟨rfl, Or.inr ⟨idn_l1 (by omega) (by omega) h1 (by omega) (by omega), by omega, by omega, by omega⟩, rfl, rfl⟩, by rw [ht]; exact hP9, va_K.moved hW.alike hK9, hD9⟩, hS.F ht⟩) hS.2.2 dX1_decodeIdentifier_73
      · skip
        refine lv_iload_n hx hb dX1_decodeIdentifier_58 rfl (lv_at hl 3 rfl) ?_
        refine lv_iconst (v := iI 1) hx hb dX1_decodeIdentifier_59 rfl ?_
        refine li_iadd hx hb dX1_decodeIdentifier_60 ?_
        refine lv_goto (tgt := 73) hx hb dX1_decodeIdentifier_61 (by decide) ?_
        have hP9 := hP.sub (ws' := [(h, .inr (1, [.int (iI z6), .int (iI 1), .int (iI z15), .int (iI op), .int (iI sz1), .int (iI ct)])), (b, .inr (0, [.ref r, .int (iI z)])), (r, .inl (cA, w, .inl (fun j => bI (t j))))]) [0, 1, 2] rfl
        have hD9 := hD.sub (ws' := [(h, .inr (1, [.int (iI z6), .int (iI 1), .int (iI z15), .int (iI op), .int (iI sz1), .int (iI ct)])), (b, .inr (0, [.ref r, .int (iI z)])), (r, .inl (cA, w, .inl (fun j => bI (t j))))]) [0, 1, 2] (by decide) rfl
        have hK9 := hK.sub (tys' := [(cA, .byte)]) [0] rfl
        exact mv_iret hx hb hr hlocks (fun tS ht hW => ⟨⟨_, (z6, 1, z15, (i + 1)), rfl, ⟨rfl, Or.inr ⟨idn_s (by omega) (by omega) (by omega) (by omega) (by omega), by omega, by omega, by omega⟩, rfl, rfl⟩, by rw [ht]; exact hP9, va_K.moved hW.alike hK9, hD9⟩, hS.F ht⟩) hS.2.2 dX1_decodeIdentifier_73
  · skip
    refine lv_iconst (v := iI (-1)) hx hb dX1_decodeIdentifier_5 rfl ?_
    have hP9 := hP.sub (ws' := [(h, .inr (1, [.int (iI kd), .int (iI cs), .int (iI tg), .int (iI op), .int (iI sz1), .int (iI ct)])), (b, .inr (0, [.ref r, .int (iI z)])), (r, .inl (cA, w, .inl (fun j => bI (t j))))]) [0, 1, 2] rfl
    have hD9 := hD.sub (ws' := [(h, .inr (1, [.int (iI kd), .int (iI cs), .int (iI tg), .int (iI op), .int (iI sz1), .int (iI ct)])), (b, .inr (0, [.ref r, .int (iI z)])), (r, .inl (cA, w, .inl (fun j => bI (t j))))]) [0, 1, 2] (by decide) rfl
    have hK9 := hK.sub (tys' := [(cA, .byte)]) [0] rfl
    exact mv_iret hx hb hr hlocks (fun tS ht hW => ⟨⟨_, (kd, cs, tg, (-1)), rfl, ⟨rfl, Or.inl ⟨idn_0 c1, rfl⟩, rfl, rfl⟩, by rw [ht]; exact hP9, va_K.moved hW.alike hK9, hD9⟩, hS.F ht⟩) hS.2.2 dX1_decodeIdentifier_6
set_option maxHeartbeats 4000000 in
set_option maxRecDepth 100000 in
theorem c_H_llen (l : Launch) (dC : Nat → ClassId) (dI : Nat → Nat → Nat) (sz : Nat) (h : Nat) (kd : Int) (cs : Int) (tg : Int) (op : Int) (ct : Int) (b : Nat) (r : Nat) (cA : ClassId) (w : Nat) (t : Nat → Int) (z : Int) (L : List Int) (i : Int) (x : Int) (st : Int) (hok : okB w t z L) (hi : 0 ≤ i ∧ i ≤ 127) (hct : 0 ≤ ct ∧ ct ≤ 5000) (hx4 : 0 ≤ x ∧ x ≤ 4096) (hst : st = 0 ∨ st = 1) : mv_Met l yX1_decodeLongLength wsX1_decodeLongLength ({ frames := 1, cells := 0, slots := 0, locals := 40 }) (va_Pc [.ref h, .ref b, .int (iI i), .int (iI x), .int (iI st)] (fun U => U.heap.size = sz ∧ va_P (dC, dI) vwCl [(h, .inr (1, [.int (iI kd), .int (iI cs), .int (iI tg), .int (iI op), .int (iI 0), .int (iI ct)])), (b, .inr (0, [.ref r, .int (iI z)])), (r, .inl (cA, w, .inl (fun j => bI (t j))))] U.heap ∧ va_K (dC, dI) vwCl [(cA, .byte)] U ∧ va_D (fun _ => True) [(h, .inr (1, [.int (iI kd), .int (iI cs), .int (iI tg), .int (iI op), .int (iI 0), .int (iI ct)])), (b, .inr (0, [.ref r, .int (iI z)])), (r, .inl (cA, w, .inl (fun j => bI (t j))))])) (mv_Q (fun (v : Option Value) (u : Int × Int × Int) (k n : Nat) => match u with | (sz', ct', q') => v = some (.int (iI q')) ∧ (dll (gd L) i ct x st = none ∧ q' = 0 ∨ dll (gd L) i ct x st = some sz' ∧ ct' = ct + i ∧ q' = 1 ∧ ct + i ≤ x ∧ 0 ≤ sz' ∧ sz' ≤ 2000000) ∧ k = 0 ∧ n = 0) (fun (u : Int × Int × Int) (tS : State) => match u with | (sz', ct', q') => va_P (dC, dI) vwCl [(h, .inr (1, [.int (iI kd), .int (iI cs), .int (iI tg), .int (iI op), .int (iI sz'), .int (iI ct')])), (b, .inr (0, [.ref r, .int (iI z)])), (r, .inl (cA, w, .inl (fun j => bI (t j))))] tS.heap ∧ va_K (dC, dI) vwCl [(cA, .byte)] tS ∧ va_D (va_A [(h, .inr (1, [.int (iI kd), .int (iI cs), .int (iI tg), .int (iI op), .int (iI 0), .int (iI ct)])), (b, .inr (0, [.ref r, .int (iI z)])), (r, .inl (cA, w, .inl (fun j => bI (t j))))] sz) [(h, .inr (1, [.int (iI kd), .int (iI cs), .int (iI tg), .int (iI op), .int (iI sz'), .int (iI ct')])), (b, .inr (0, [.ref r, .int (iI z)])), (r, .inl (cA, w, .inl (fun j => bI (t j))))]) (va_A [(h, .inr (1, [.int (iI kd), .int (iI cs), .int (iI tg), .int (iI op), .int (iI 0), .int (iI ct)])), (b, .inr (0, [.ref r, .int (iI z)])), (r, .inl (cA, w, .inl (fun j => bI (t j))))] sz)) (va_A [(h, .inr (1, [.int (iI kd), .int (iI cs), .int (iI tg), .int (iI op), .int (iI 0), .int (iI ct)])), (b, .inr (0, [.ref r, .int (iI z)])), (r, .inl (cA, w, .inl (fun j => bI (t j))))] sz) := by
  refine mv_ofW (cc := cX1_decodeLongLength) (maxL := 7) (ret := (some .boolean)) (by decide) rfl ?_
  intro p e s m args below meth c s₁ B hml hv
  obtain ⟨rfl, hsz, hP, hK, hD0⟩ := hv
  have hx := B.exec
  have hb := B.bytes
  have hr := B.returns
  have hT : ∀ w ∈ wT, w.before _ s = true := fun w h => atoms_spec (ws := wsX1_decodeLongLength) B.pre w (List.mem_cons_of_mem _ h)
  have hown : s.vm.findClass RX1 = some m.cls := findClass_of_methodNamed B.named
  have hlocks := B.notSynchronized
  subst hsz
  have hD := hD0.self (sz := s.heap.size)
  generalize hAe : va_A [(h, .inr (1, [.int (iI kd), .int (iI cs), .int (iI tg), .int (iI op), .int (iI 0), .int (iI ct)])), (b, .inr (0, [.ref r, .int (iI z)])), (r, .inl (cA, w, .inl (fun j => bI (t j))))] s.heap.size = A at hD ⊢
  have hA : ∀ q : Nat, s.heap.size ≤ q → A q := fun q h => by rw [← hAe]; exact Or.inr h
  have hS : va_S A s.heap s.heap [] := va_S.rf
  have hP : va_P (dC, dI) vwCl [(h, .inr (1, [.int (iI kd), .int (iI cs), .int (iI tg), .int (iI op), .int (iI 0), .int (iI ct)])), (b, .inr (0, [.ref r, .int (iI z)])), (r, .inl (cA, w, .inl (fun j => bI (t j))))] s.heap := hP
  have hl := lv_entry ([.ref h, .ref b, .int (iI i), .int (iI x), .int (iI st)]) (n := 7) (Nat.le_of_ble_eq_true rfl)
  rw [lg_entry_eq]
  generalize (lg_sl ([.ref h, .ref b, .int (iI i), .int (iI x), .int (iI st)]) ++ List.replicate (7 - (lg_sl ([.ref h, .ref b, .int (iI i), .int (iI x), .int (iI st)])).length) Slot.unset).toArray = ls at hl ⊢
  have hl : lv_has ls 7 [(0, .ref h), (1, .ref b), (2, .int (iI i)), (3, .int (iI x)), (4, .int (iI st))] := hl
  obtain ⟨hw1, hw2, hw3, hw4, hw5, hw6⟩ := id hok
  have hg8 := gd_rng hok
  have hgi := hg8 ct
  refine mv_nameQ (fun Q9 hQ9 => ?_)
  have LP : ∀ (fu : Nat) (a : Int) (j : Int) (bz : Int) (H : Heap) (locs : List Loc) (ls : Array Slot) (kc ks : Nat), (i - j < (fu : Int)) → (0 ≤ j ∧ j ≤ i) → (0 ≤ a ∧ a ≤ 2000000) → (i ≤ x - ct) → (bz = 1 ∧ gd L ct = 0 ∨ bz = 0 ∧ ¬ gd L ct = 0) → (llen (gd L) i.toNat ct 0 = llen (gd L) (i - j).toNat (ct + j) a) → (kc = 0 ∧ ks = 0) → va_K (dC, dI) vwCl [(cA, .byte)] s → va_P (dC, dI) vwCl [(h, .inr (1, [.int (iI kd), .int (iI cs), .int (iI tg), .int (iI op), .int (iI a), .int (iI ct)])), (b, .inr (0, [.ref r, .int (iI z)])), (r, .inl (cA, w, .inl (fun j => bI (t j))))] H → va_D A [(h, .inr (1, [.int (iI kd), .int (iI cs), .int (iI tg), .int (iI op), .int (iI a), .int (iI ct)])), (b, .inr (0, [.ref r, .int (iI z)])), (r, .inl (cA, w, .inl (fun j => bI (t j))))] → va_S A s.heap H locs → lv_has ls 7 [(0, .ref h), (1, .ref b), (2, .int (iI i)), (3, .int (iI x)), (4, .int (iI st)), (5, .int (iI bz)), (6, .int (iI j))] → W p l e ({ frames := 1, cells := 0, slots := 0, locals := 40 }) s m ([.ref h, .ref b, .int (iI i), .int (iI x), .int (iI st)] : List Value).toArray below meth c H locs kc ks Q9 (F0 m 33 ls []) := by
    intro fu
    induction fu with
    | zero =>
      intro a j bz H locs ls kc ks hfu hj ha hix hbz hn hkc hK hP hD hS hl
      exfalso
      omega
    | succ fu ih =>
      intro a j bz H locs ls kc ks hfu hj ha hix hbz hn hkc hK hP hD hS hl
      have hgj := hg8 (ct + j)
      refine lv_iload hx hb dX1_decodeLongLength_33 (lv_at hl 6 rfl) ?_
      refine lv_iload_n hx hb dX1_decodeLongLength_35 rfl (lv_at hl 2 rfl) ?_
      refine li_icmp_ge (tgt := 86) hx hb (by omega) (by omega) dX1_decodeLongLength_36 (by decide) (fun c1 => ?_) (fun c1 => ?_)
      · skip
        refine lv_aload_n hx hb dX1_decodeLongLength_86 rfl (lv_at hl 0 rfl) ?_
        refine lv_dup hx hb dX1_decodeLongLength_87 rfl ?_
        refine va_get (D := (dC, dI)) (ci := 1) (v := .int (iI ct)) (C := RX1) (T := TX1) (N := 6) hx hb hT inX1 hown hK hP 0 rfl rfl 5 (by decide) (hT _ wd88) (fun _ h9 => h9) rfl dX1_decodeLongLength_88 ?_
        refine lv_iload_n hx hb dX1_decodeLongLength_91 rfl (lv_at hl 2 rfl) ?_
        refine li_iadd hx hb dX1_decodeLongLength_92 ?_
        refine li_nm (fun z2 ez2 => ?_)
        refine va_put (D := (dC, dI)) (ci := 1) (v := .int (iI z2)) (ty := .int) (C := RX1) (T := TX1) (N := 6) hx hb hT inX1 tyX1 tyX1_ok nX1 hown hK hP hD hS 0 rfl rfl 5 (by decide) (hT _ wd88) (fun _ h9 => h9) rfl (by decide +kernel) rfl rfl (Nat.le_of_ble_eq_true rfl) dX1_decodeLongLength_93 (fun H locs hP hD hS => ?_)
        have hP : va_P (dC, dI) vwCl [(h, .inr (1, [.int (iI kd), .int (iI cs), .int (iI tg), .int (iI op), .int (iI a), .int (iI z2)])), (b, .inr (0, [.ref r, .int (iI z)])), (r, .inl (cA, w, .inl (fun j => bI (t j))))] H := hP
        have hD : va_D A [(h, .inr (1, [.int (iI kd), .int (iI cs), .int (iI tg), .int (iI op), .int (iI a), .int (iI z2)])), (b, .inr (0, [.ref r, .int (iI z)])), (r, .inl (cA, w, .inl (fun j => bI (t j))))] := hD
        refine lv_iload hx hb dX1_decodeLongLength_96 (lv_at hl 4 rfl) ?_
        refine li_if_eq (tgt := 116) hx hb (by omega) dX1_decodeLongLength_98 (by decide) (fun c3 => ?_) (fun c3 => ?_)
        · skip
          refine lv_iconst (v := iI 1) hx hb dX1_decodeLongLength_116 rfl ?_
          refine lv_goto (tgt := 121) hx hb dX1_decodeLongLength_117 (by decide) ?_
          have hend : llen (gd L) i.toNat ct 0 = a := by rw [hn]; exact llen_e (by omega)
          subst hQ9
          have hP9 := hP.sub (ws' := [(h, .inr (1, [.int (iI kd), .int (iI cs), .int (iI tg), .int (iI op), .int (iI a), .int (iI z2)])), (b, .inr (0, [.ref r, .int (iI z)])), (r, .inl (cA, w, .inl (fun j => bI (t j))))]) [0, 1, 2] rfl
          have hD9 := hD.sub (ws' := [(h, .inr (1, [.int (iI kd), .int (iI cs), .int (iI tg), .int (iI op), .int (iI a), .int (iI z2)])), (b, .inr (0, [.ref r, .int (iI z)])), (r, .inl (cA, w, .inl (fun j => bI (t j))))]) [0, 1, 2] (by decide) rfl
          have hK9 := hK.sub (tys' := [(cA, .byte)]) [0] rfl
          exact mv_zret hx hb hr (zb_n (by omega)) hlocks (fun tS ht hW => ⟨⟨_, (a, z2, 1), rfl, ⟨rfl, Or.inr ⟨dll_2 (by omega) hend (by omega), by omega, rfl, by omega, by omega, by omega⟩, by omega, by omega⟩, by rw [ht]; exact hP9, va_K.moved hW.alike hK9, hD9⟩, hS.F ht⟩) hS.2.2 dX1_decodeLongLength_121
        · skip
          refine lv_iload hx hb dX1_decodeLongLength_101 (lv_at hl 5 rfl) ?_
          refine li_if_ne (tgt := 120) hx hb (by omega) dX1_decodeLongLength_103 (by decide) (fun c4 => ?_) (fun c4 => ?_)
          · skip
            refine lv_iconst (v := iI 0) hx hb dX1_decodeLongLength_120 rfl ?_
            have hend : llen (gd L) i.toNat ct 0 = a := by rw [hn]; exact llen_e (by omega)
            subst hQ9
            have hP9 := hP.sub (ws' := [(h, .inr (1, [.int (iI kd), .int (iI cs), .int (iI tg), .int (iI op), .int (iI a), .int (iI z2)])), (b, .inr (0, [.ref r, .int (iI z)])), (r, .inl (cA, w, .inl (fun j => bI (t j))))]) [0, 1, 2] rfl
            have hD9 := hD.sub (ws' := [(h, .inr (1, [.int (iI kd), .int (iI cs), .int (iI tg), .int (iI op), .int (iI a), .int (iI z2)])), (b, .inr (0, [.ref r, .int (iI z)])), (r, .inl (cA, w, .inl (fun j => bI (t j))))]) [0, 1, 2] (by decide) rfl
            have hK9 := hK.sub (tys' := [(cA, .byte)]) [0] rfl
            exact mv_zret hx hb hr (zb_n (by omega)) hlocks (fun tS ht hW => ⟨⟨_, (a, z2, 0), rfl, ⟨rfl, Or.inl ⟨dll_1 (by omega) hend (by omega), rfl⟩, by omega, by omega⟩, by rw [ht]; exact hP9, va_K.moved hW.alike hK9, hD9⟩, hS.F ht⟩) hS.2.2 dX1_decodeLongLength_121
          · skip
            refine lv_aload_n hx hb dX1_decodeLongLength_106 rfl (lv_at hl 0 rfl) ?_
            refine va_get (D := (dC, dI)) (ci := 1) (v := .int (iI a)) (C := RX1) (T := TX1) (N := 6) hx hb hT inX1 hown hK hP 0 rfl rfl 4 (by decide) (hT _ wd86) (fun _ h9 => h9) rfl dX1_decodeLongLength_107 ?_
            refine lv_sipush (v := iI 128) hx hb dX1_decodeLongLength_110 (by decide +kernel) ?_
            refine li_icmp_lt (tgt := 120) hx hb (by omega) (by omega) dX1_decodeLongLength_113 (by decide) (fun c5 => ?_) (fun c5 => ?_)
            · skip
              refine lv_iconst (v := iI 0) hx hb dX1_decodeLongLength_120 rfl ?_
              have hend : llen (gd L) i.toNat ct 0 = a := by rw [hn]; exact llen_e (by omega)
              subst hQ9
              have hP9 := hP.sub (ws' := [(h, .inr (1, [.int (iI kd), .int (iI cs), .int (iI tg), .int (iI op), .int (iI a), .int (iI z2)])), (b, .inr (0, [.ref r, .int (iI z)])), (r, .inl (cA, w, .inl (fun j => bI (t j))))]) [0, 1, 2] rfl
              have hD9 := hD.sub (ws' := [(h, .inr (1, [.int (iI kd), .int (iI cs), .int (iI tg), .int (iI op), .int (iI a), .int (iI z2)])), (b, .inr (0, [.ref r, .int (iI z)])), (r, .inl (cA, w, .inl (fun j => bI (t j))))]) [0, 1, 2] (by decide) rfl
              have hK9 := hK.sub (tys' := [(cA, .byte)]) [0] rfl
              exact mv_zret hx hb hr (zb_n (by omega)) hlocks (fun tS ht hW => ⟨⟨_, (a, z2, 0), rfl, ⟨rfl, Or.inl ⟨dll_1 (by omega) hend (by omega), rfl⟩, by omega, by omega⟩, by rw [ht]; exact hP9, va_K.moved hW.alike hK9, hD9⟩, hS.F ht⟩) hS.2.2 dX1_decodeLongLength_121
            · skip
              refine lv_iconst (v := iI 1) hx hb dX1_decodeLongLength_116 rfl ?_
              refine lv_goto (tgt := 121) hx hb dX1_decodeLongLength_117 (by decide) ?_
              have hend : llen (gd L) i.toNat ct 0 = a := by rw [hn]; exact llen_e (by omega)
              subst hQ9
              have hP9 := hP.sub (ws' := [(h, .inr (1, [.int (iI kd), .int (iI cs), .int (iI tg), .int (iI op), .int (iI a), .int (iI z2)])), (b, .inr (0, [.ref r, .int (iI z)])), (r, .inl (cA, w, .inl (fun j => bI (t j))))]) [0, 1, 2] rfl
              have hD9 := hD.sub (ws' := [(h, .inr (1, [.int (iI kd), .int (iI cs), .int (iI tg), .int (iI op), .int (iI a), .int (iI z2)])), (b, .inr (0, [.ref r, .int (iI z)])), (r, .inl (cA, w, .inl (fun j => bI (t j))))]) [0, 1, 2] (by decide) rfl
              have hK9 := hK.sub (tys' := [(cA, .byte)]) [0] rfl
              exact mv_zret hx hb hr (zb_n (by omega)) hlocks (fun tS ht hW => ⟨⟨_, (a, z2, 1), rfl, ⟨rfl, Or.inr ⟨dll_2 (by omega) hend (by omega), by omega, rfl, by omega, by omega, by omega⟩, by omega, by omega⟩, by rw [ht]; exact hP9, va_K.moved hW.alike hK9, hD9⟩, hS.F ht⟩) hS.2.2 dX1_decodeLongLength_121
      · skip
        refine lv_aload_n hx hb dX1_decodeLongLength_39 rfl (lv_at hl 0 rfl) ?_
        refine lv_aload_n hx hb dX1_decodeLongLength_40 rfl (lv_at hl 0 rfl) ?_
        refine va_get (D := (dC, dI)) (ci := 1) (v := .int (iI a)) (C := RX1) (T := TX1) (N := 6) hx hb hT inX1 hown hK hP 0 rfl rfl 4 (by decide) (hT _ wd86) (fun _ h9 => h9) rfl dX1_decodeLongLength_41 ?_
        refine lv_sipush (v := iI 4096) hx hb dX1_decodeLongLength_44 (by decide +kernel) ?_
        refine li_icmp_le (tgt := 57) hx hb (by omega) (by omega) dX1_decodeLongLength_47 (by decide) (fun c6 => ?_) (fun c6 => ?_)
        · skip
          refine lv_aload_n hx hb dX1_decodeLongLength_57 rfl (lv_at hl 0 rfl) ?_
          refine va_get (D := (dC, dI)) (ci := 1) (v := .int (iI a)) (C := RX1) (T := TX1) (N := 6) hx hb hT inX1 hown hK hP 0 rfl rfl 4 (by decide) (hT _ wd86) (fun _ h9 => h9) rfl dX1_decodeLongLength_58 ?_
          refine lv_sipush (v := iI 256) hx hb dX1_decodeLongLength_61 (by decide +kernel) ?_
          refine li_imul hx hb dX1_decodeLongLength_64 ?_
          refine lv_aload_n hx hb dX1_decodeLongLength_65 rfl (lv_at hl 1 rfl) ?_
          refine lv_aload_n hx hb dX1_decodeLongLength_66 rfl (lv_at hl 0 rfl) ?_
          refine va_get (D := (dC, dI)) (ci := 1) (v := .int (iI ct)) (C := RX1) (T := TX1) (N := 6) hx hb hT inX1 hown hK hP 0 rfl rfl 5 (by decide) (hT _ wd88) (fun _ h9 => h9) rfl dX1_decodeLongLength_67 ?_
          refine lv_iload hx hb dX1_decodeLongLength_70 (lv_at hl 6 rfl) ?_
          refine li_iadd hx hb dX1_decodeLongLength_72 ?_
          have hPc := hP.sub (ws' := [(b, .inr (0, [.ref r, .int (iI z)])), (r, .inl (cA, w, .inl (fun j => bI (t j))))]) [1, 2] rfl
          have hDc := hD.sub (ws' := [(b, .inr (0, [.ref r, .int (iI z)])), (r, .inl (cA, w, .inl (fun j => bI (t j))))]) [1, 2] (by decide) rfl
          have hKc := hK.sub (tys' := [(cA, .byte)]) [0] rfl
          have hFc := va_free (wc := [(b, .inr (0, [.ref r, .int (iI z)])), (r, .inl (cA, w, .inl (fun j => bI (t j))))]) hD hS hA [1, 2] rfl
          refine mv_call (mv_runV (As := [.int (iI (ct + j))]) (rest := [.int (iI (a * 256)), .ref h]) ⟨hx, hb, hml, hown, hT⟩ (c_B_at l dC dI H.size b r cA w t z L (ct + j) (hok) (by omega)) (cwV 1 hT (gV wd321 wd322 wd323 wd27 wd324) rfl rfl rfl (by decide +kernel) ⟨show 0 + 1 ≤ 1 from by omega, show 8 + (2 + 11) + 0 ≤ 40 from by omega⟩) ⟨fun a U g mk q => by obtain ⟨q0, q1, qP, qK, qD⟩ := q; exact ⟨q0, q1, qP, va_K.moved (u := U) (U := U.calling g mk a) (Vm.Alike.refl U.vm) qK, qD⟩, va_recv hKc hPc (ci := 0) (q0 := 0) rfl rfl, fun U hU hW => ⟨rfl, by rw [hU], by rw [hU]; exact hPc, va_K.moved hW.alike hKc, hDc.weaken (fun _ _ _ _ => trivial)⟩⟩ rfl rfl hl.1 rfl (lv_room (Nat.le_of_ble_eq_true rfl)) dX1_decodeLongLength_73 ⟨show kc + 0 ≤ 0 from by omega, show ks + 0 ≤ 0 from by omega⟩) hS (fun q _ h => hFc q h) hFc (fun v9 u k7 n8 tS H1 locs ht hvm hw hB hz1 hk1 hS => ?_)
          obtain ⟨hP1, hK1, hD1⟩ := hB
          rw [ht] at hP1
          have hK1 := va_K.moved hvm.symm hK1
          try dsimp only at hw
          obtain ⟨hP, hD⟩ := va_join (wr := [(h, .inr (1, [.int (iI kd), .int (iI cs), .int (iI tg), .int (iI op), .int (iI a), .int (iI ct)]))]) (w1 := [(b, .inr (0, [.ref r, .int (iI z)])), (r, .inl (cA, w, .inl (fun j => bI (t j))))]) hP hD [1, 2] [0] rfl rfl (by decide) (by decide) hk1 hFc hP1 hD1
          have hK := (hK.sub (tys' := []) [] rfl).app hK1
          generalize H1 = H at hP hS ⊢
          have hP : va_P (dC, dI) vwCl [(h, .inr (1, [.int (iI kd), .int (iI cs), .int (iI tg), .int (iI op), .int (iI a), .int (iI ct)])), (b, .inr (0, [.ref r, .int (iI z)])), (r, .inl (cA, w, .inl (fun j => bI (t j))))] H := hP
          have hD : va_D A [(h, .inr (1, [.int (iI kd), .int (iI cs), .int (iI tg), .int (iI op), .int (iI a), .int (iI ct)])), (b, .inr (0, [.ref r, .int (iI z)])), (r, .inl (cA, w, .inl (fun j => bI (t j))))] := hD
          have hK : va_K (dC, dI) vwCl [(cA, .byte)] s := hK
          obtain ⟨rfl, rfl, rfl⟩ := hw
          refine W.eq (g2 := F0 m 76 ls [.int (iI (gd L (ct + j))), .int (iI (a * 256)), .ref h]) rfl ?_
          refine li_iadd hx hb dX1_decodeLongLength_76 ?_
          refine li_nm (fun z10 ez10 => ?_)
          refine va_put (D := (dC, dI)) (ci := 1) (v := .int (iI z10)) (ty := .int) (C := RX1) (T := TX1) (N := 6) hx hb hT inX1 tyX1 tyX1_ok nX1 hown hK hP hD hS 0 rfl rfl 4 (by decide) (hT _ wd86) (fun _ h9 => h9) rfl (by decide +kernel) rfl rfl (Nat.le_of_ble_eq_true rfl) dX1_decodeLongLength_77 (fun H locs hP hD hS => ?_)
          have hP : va_P (dC, dI) vwCl [(h, .inr (1, [.int (iI kd), .int (iI cs), .int (iI tg), .int (iI op), .int (iI z10), .int (iI ct)])), (b, .inr (0, [.ref r, .int (iI z)])), (r, .inl (cA, w, .inl (fun j => bI (t j))))] H := hP
          have hD : va_D A [(h, .inr (1, [.int (iI kd), .int (iI cs), .int (iI tg), .int (iI op), .int (iI z10), .int (iI ct)])), (b, .inr (0, [.ref r, .int (iI z)])), (r, .inl (cA, w, .inl (fun j => bI (t j))))] := hD
          obtain ⟨z11, ez11⟩ : ∃ y : Int, y = j + 1 := ⟨_, rfl⟩
          refine lv_iinc (v := iI z11) (lv' := [(6, .int (iI z11)), (0, .ref h), (1, .ref b), (2, .int (iI i)), (3, .int (iI x)), (4, .int (iI st)), (5, .int (iI bz))]) hx hb dX1_decodeLongLength_80 hl (k := 6) rfl (by rw [ez11]; exact iI_add _ _) (by decide) rfl (fun ls hl => ?_)
          refine lv_goto (tgt := 33) hx hb dX1_decodeLongLength_83 (by decide) ?_
          have z11_eq : z11 = j + 1 := by omega
          exact ih z10 z11 bz _ _ _ _ _ (by omega) (by omega) (by omega) (hix) (hbz) (by rw [hn, z11_eq]; exact llen_s (by omega) (by first | (rw [if_pos (by omega)]; done) | (rw [if_pos (by omega)]; omega) | (rw [if_neg (by omega)]; omega))) (by omega) (hK.sub [0] rfl) (hP.sub [0, 1, 2] rfl) (hD.sub [0, 1, 2] (by decide) rfl) hS (lv_sub hl [1, 2, 3, 4, 5, 6, 0] rfl)
        · skip
          refine lv_aload_n hx hb dX1_decodeLongLength_50 rfl (lv_at hl 0 rfl) ?_
          refine va_get (D := (dC, dI)) (ci := 1) (v := .int (iI a)) (C := RX1) (T := TX1) (N := 6) hx hb hT inX1 hown hK hP 0 rfl rfl 4 (by decide) (hT _ wd86) (fun _ h9 => h9) rfl dX1_decodeLongLength_51 ?_
          refine lv_goto (tgt := 77) hx hb dX1_decodeLongLength_54 (by decide) ?_
          refine va_put (D := (dC, dI)) (ci := 1) (v := .int (iI a)) (ty := .int) (C := RX1) (T := TX1) (N := 6) hx hb hT inX1 tyX1 tyX1_ok nX1 hown hK hP hD hS 0 rfl rfl 4 (by decide) (hT _ wd86) (fun _ h9 => h9) rfl (by decide +kernel) rfl rfl (Nat.le_of_ble_eq_true rfl) dX1_decodeLongLength_77 (fun H locs hP hD hS => ?_)
          have hP : va_P (dC, dI) vwCl [(h, .inr (1, [.int (iI kd), .int (iI cs), .int (iI tg), .int (iI op), .int (iI a), .int (iI ct)])), (b, .inr (0, [.ref r, .int (iI z)])), (r, .inl (cA, w, .inl (fun j => bI (t j))))] H := hP
          have hD : va_D A [(h, .inr (1, [.int (iI kd), .int (iI cs), .int (iI tg), .int (iI op), .int (iI a), .int (iI ct)])), (b, .inr (0, [.ref r, .int (iI z)])), (r, .inl (cA, w, .inl (fun j => bI (t j))))] := hD
          obtain ⟨z12, ez12⟩ : ∃ y : Int, y = j + 1 := ⟨_, rfl⟩
          refine lv_iinc (v := iI z12) (lv' := [(6, .int (iI z12)), (0, .ref h), (1, .ref b), (2, .int (iI i)), (3, .int (iI x)), (4, .int (iI st)), (5, .int (iI bz))]) hx hb dX1_decodeLongLength_80 hl (k := 6) rfl (by rw [ez12]; exact iI_add _ _) (by decide) rfl (fun ls hl => ?_)
          refine lv_goto (tgt := 33) hx hb dX1_decodeLongLength_83 (by decide) ?_
          have z12_eq : z12 = j + 1 := by omega
          exact ih a z12 bz _ _ _ _ _ (by omega) (by omega) (by omega) (hix) (hbz) (by rw [hn, z12_eq]; exact llen_s (by omega) (by first | (rw [if_pos (by omega)]; done) | (rw [if_pos (by omega)]; omega) | (rw [if_neg (by omega)]; omega))) (by omega) (hK.sub [0] rfl) (hP.sub [0, 1, 2] rfl) (hD.sub [0, 1, 2] (by decide) rfl) hS (lv_sub hl [1, 2, 3, 4, 5, 6, 0] rfl)
  refine lv_iload_n hx hb dX1_decodeLongLength_0 rfl (lv_at hl 2 rfl) ?_
  refine lv_iload_n hx hb dX1_decodeLongLength_1 rfl (lv_at hl 3 rfl) ?_
  refine lv_aload_n hx hb dX1_decodeLongLength_2 rfl (lv_at hl 0 rfl) ?_
  refine va_get (D := (dC, dI)) (ci := 1) (v := .int (iI ct)) (C := RX1) (T := TX1) (N := 6) hx hb hT inX1 hown hK hP 0 rfl rfl 5 (by decide) (hT _ wd88) (fun _ h9 => h9) rfl dX1_decodeLongLength_3 ?_
  refine li_isub hx hb dX1_decodeLongLength_6 ?_
  refine li_icmp_le (tgt := 12) hx hb (by omega) (by omega) dX1_decodeLongLength_7 (by decide) (fun c13 => ?_) (fun c13 => ?_)
  · skip
    refine lv_aload_n hx hb dX1_decodeLongLength_12 rfl (lv_at hl 1 rfl) ?_
    refine lv_aload_n hx hb dX1_decodeLongLength_13 rfl (lv_at hl 0 rfl) ?_
    refine va_get (D := (dC, dI)) (ci := 1) (v := .int (iI ct)) (C := RX1) (T := TX1) (N := 6) hx hb hT inX1 hown hK hP 0 rfl rfl 5 (by decide) (hT _ wd88) (fun _ h9 => h9) rfl dX1_decodeLongLength_14 ?_
    have hPc := hP.sub (ws' := [(b, .inr (0, [.ref r, .int (iI z)])), (r, .inl (cA, w, .inl (fun j => bI (t j))))]) [1, 2] rfl
    have hDc := hD.sub (ws' := [(b, .inr (0, [.ref r, .int (iI z)])), (r, .inl (cA, w, .inl (fun j => bI (t j))))]) [1, 2] (by decide) rfl
    have hKc := hK.sub (tys' := [(cA, .byte)]) [0] rfl
    have hFc := va_free (wc := [(b, .inr (0, [.ref r, .int (iI z)])), (r, .inl (cA, w, .inl (fun j => bI (t j))))]) hD hS hA [1, 2] rfl
    refine mv_call (mv_runV (As := [.int (iI ct)]) (rest := []) ⟨hx, hb, hml, hown, hT⟩ (c_B_at l dC dI s.heap.size b r cA w t z L ct (hok) (by omega)) (cwV 1 hT (gV wd321 wd322 wd323 wd27 wd324) rfl rfl rfl (by decide +kernel) ⟨show 0 + 1 ≤ 1 from by omega, show 8 + (2 + 11) + 0 ≤ 40 from by omega⟩) ⟨fun a U g mk q => by obtain ⟨q0, q1, qP, qK, qD⟩ := q; exact ⟨q0, q1, qP, va_K.moved (u := U) (U := U.calling g mk a) (Vm.Alike.refl U.vm) qK, qD⟩, va_recv hKc hPc (ci := 0) (q0 := 0) rfl rfl, fun U hU hW => ⟨rfl, by rw [hU], by rw [hU]; exact hPc, va_K.moved hW.alike hKc, hDc.weaken (fun _ _ _ _ => trivial)⟩⟩ rfl rfl hl.1 rfl (lv_room (Nat.le_of_ble_eq_true rfl)) dX1_decodeLongLength_17 ⟨show 0 + 0 ≤ 0 from by omega, show 0 + 0 ≤ 0 from by omega⟩) hS (fun q _ h => hFc q h) hFc (fun v16 u k14 n15 tS H1 locs ht hvm hw hB hz1 hk1 hS => ?_)
    obtain ⟨hP1, hK1, hD1⟩ := hB
    rw [ht] at hP1
    have hK1 := va_K.moved hvm.symm hK1
    try dsimp only at hw
    obtain ⟨hP, hD⟩ := va_join (wr := [(h, .inr (1, [.int (iI kd), .int (iI cs), .int (iI tg), .int (iI op), .int (iI 0), .int (iI ct)]))]) (w1 := [(b, .inr (0, [.ref r, .int (iI z)])), (r, .inl (cA, w, .inl (fun j => bI (t j))))]) hP hD [1, 2] [0] rfl rfl (by decide) (by decide) hk1 hFc hP1 hD1
    have hK := (hK.sub (tys' := []) [] rfl).app hK1
    generalize H1 = H at hP hS ⊢
    have hP : va_P (dC, dI) vwCl [(h, .inr (1, [.int (iI kd), .int (iI cs), .int (iI tg), .int (iI op), .int (iI 0), .int (iI ct)])), (b, .inr (0, [.ref r, .int (iI z)])), (r, .inl (cA, w, .inl (fun j => bI (t j))))] H := hP
    have hD : va_D A [(h, .inr (1, [.int (iI kd), .int (iI cs), .int (iI tg), .int (iI op), .int (iI 0), .int (iI ct)])), (b, .inr (0, [.ref r, .int (iI z)])), (r, .inl (cA, w, .inl (fun j => bI (t j))))] := hD
    have hK : va_K (dC, dI) vwCl [(cA, .byte)] s := hK
    obtain ⟨rfl, rfl, rfl⟩ := hw
    refine W.eq (g2 := F0 m 20 ls [.int (iI (gd L ct))]) rfl ?_
    refine li_if_ne (tgt := 27) hx hb (by omega) dX1_decodeLongLength_20 (by decide) (fun c17 => ?_) (fun c17 => ?_)
    · skip
      refine lv_iconst (v := iI 0) hx hb dX1_decodeLongLength_27 rfl ?_
      refine lv_istore (lv' := [(5, .int (iI 0)), (0, .ref h), (1, .ref b), (2, .int (iI i)), (3, .int (iI x)), (4, .int (iI st))]) hx hb dX1_decodeLongLength_28 hl (by decide) rfl (fun ls hl => ?_)
      refine lv_iconst (v := iI 0) hx hb dX1_decodeLongLength_30 rfl ?_
      refine lv_istore (lv' := [(6, .int (iI 0)), (5, .int (iI 0)), (0, .ref h), (1, .ref b), (2, .int (iI i)), (3, .int (iI x)), (4, .int (iI st))]) hx hb dX1_decodeLongLength_31 hl (by decide) rfl (fun ls hl => ?_)
      exact LP (1000) 0 0 0 _ _ _ _ _ (by omega) (by omega) (by omega) (by omega) (by omega) (by rw [Int.sub_zero, Int.add_zero]) (by omega) (hK.sub [0] rfl) (hP.sub [0, 1, 2] rfl) (hD.sub [0, 1, 2] (by decide) rfl) hS (lv_sub hl [2, 3, 4, 5, 6, 1, 0] rfl)
    · skip
      refine lv_iconst (v := iI 1) hx hb dX1_decodeLongLength_23 rfl ?_
      refine lv_goto (tgt := 28) hx hb dX1_decodeLongLength_24 (by decide) ?_
      refine lv_istore (lv' := [(5, .int (iI 1)), (0, .ref h), (1, .ref b), (2, .int (iI i)), (3, .int (iI x)), (4, .int (iI st))]) hx hb dX1_decodeLongLength_28 hl (by decide) rfl (fun ls hl => ?_)
      refine lv_iconst (v := iI 0) hx hb dX1_decodeLongLength_30 rfl ?_
      refine lv_istore (lv' := [(6, .int (iI 0)), (5, .int (iI 1)), (0, .ref h), (1, .ref b), (2, .int (iI i)), (3, .int (iI x)), (4, .int (iI st))]) hx hb dX1_decodeLongLength_31 hl (by decide) rfl (fun ls hl => ?_)
      exact LP (1000) 0 0 1 _ _ _ _ _ (by omega) (by omega) (by omega) (by omega) (by omega) (by rw [Int.sub_zero, Int.add_zero]) (by omega) (hK.sub [0] rfl) (hP.sub [0, 1, 2] rfl) (hD.sub [0, 1, 2] (by decide) rfl) hS (lv_sub hl [2, 3, 4, 5, 6, 1, 0] rfl)
  · skip
    refine lv_iconst (v := iI 0) hx hb dX1_decodeLongLength_10 rfl ?_
    subst hQ9
    have hP9 := hP.sub (ws' := [(h, .inr (1, [.int (iI kd), .int (iI cs), .int (iI tg), .int (iI op), .int (iI 0), .int (iI ct)])), (b, .inr (0, [.ref r, .int (iI z)])), (r, .inl (cA, w, .inl (fun j => bI (t j))))]) [0, 1, 2] rfl
    have hD9 := hD.sub (ws' := [(h, .inr (1, [.int (iI kd), .int (iI cs), .int (iI tg), .int (iI op), .int (iI 0), .int (iI ct)])), (b, .inr (0, [.ref r, .int (iI z)])), (r, .inl (cA, w, .inl (fun j => bI (t j))))]) [0, 1, 2] (by decide) rfl
    have hK9 := hK.sub (tys' := [(cA, .byte)]) [0] rfl
    exact mv_zret hx hb hr (zb_n (by omega)) hlocks (fun tS ht hW => ⟨⟨_, (0, ct, 0), rfl, ⟨rfl, Or.inl ⟨dll_0 (by omega), rfl⟩, by omega, by omega⟩, by rw [ht]; exact hP9, va_K.moved hW.alike hK9, hD9⟩, hS.F ht⟩) hS.2.2 dX1_decodeLongLength_11
set_option maxHeartbeats 4000000 in
set_option maxRecDepth 100000 in
theorem c_H_hdr (l : Launch) (dC : Nat → ClassId) (dI : Nat → Nat → Nat) (sz : Nat) (h : Nat) (kd : Int) (cs : Int) (tg : Int) (op : Int) (sz1 : Int) (ct : Int) (b : Nat) (r : Nat) (cA : ClassId) (w : Nat) (t : Nat → Int) (z : Int) (L : List Int) (i : Int) (x : Int) (st : Int) (hok : okB w t z L) (hi : 0 ≤ i ∧ i ≤ 5000) (hx4 : 0 ≤ x ∧ x ≤ 4096) (hst : st = 0 ∨ st = 1) : mv_Met l yX1_decode wsX1_decode ({ frames := 3, cells := 0, slots := 0, locals := 100 }) (va_Pc [.ref h, .ref b, .int (iI i), .int (iI x), .int (iI st)] (fun U => U.heap.size = sz ∧ va_P (dC, dI) vwCl [(h, .inr (1, [.int (iI kd), .int (iI cs), .int (iI tg), .int (iI op), .int (iI sz1), .int (iI ct)])), (b, .inr (0, [.ref r, .int (iI z)])), (r, .inl (cA, w, .inl (fun j => bI (t j))))] U.heap ∧ va_K (dC, dI) vwCl [(cA, .byte)] U ∧ va_D (fun _ => True) [(h, .inr (1, [.int (iI kd), .int (iI cs), .int (iI tg), .int (iI op), .int (iI sz1), .int (iI ct)])), (b, .inr (0, [.ref r, .int (iI z)])), (r, .inl (cA, w, .inl (fun j => bI (t j))))])) (mv_Q (fun (v : Option Value) (u : Int × Int × Int × Int × Int × Int × Int) (k n : Nat) => match u with | (kd', cs', tg', op', sz', ct', q') => v = some (.int (iI q')) ∧ (hdr (gd L) st i x = none ∧ q' = 0 ∨ hdr (gd L) st i x = some (kd', cs', tg', op', sz', ct') ∧ q' = 1 ∧ i + 2 ≤ ct' ∧ ct' ≤ x ∧ 0 ≤ sz' ∧ sz' ≤ x - ct' ∧ (op' = 0 ∨ op' = 1) ∧ 0 ≤ kd' ∧ kd' ≤ 3 ∧ (cs' = 0 ∨ cs' = 1) ∧ -1 ≤ tg' ∧ tg' ≤ 2147483647) ∧ k = 0 ∧ n = 0) (fun (u : Int × Int × Int × Int × Int × Int × Int) (tS : State) => match u with | (kd', cs', tg', op', sz', ct', q') => va_P (dC, dI) vwCl [(h, .inr (1, [.int (iI kd'), .int (iI cs'), .int (iI tg'), .int (iI op'), .int (iI sz'), .int (iI ct')])), (b, .inr (0, [.ref r, .int (iI z)])), (r, .inl (cA, w, .inl (fun j => bI (t j))))] tS.heap ∧ va_K (dC, dI) vwCl [(cA, .byte)] tS ∧ va_D (va_A [(h, .inr (1, [.int (iI kd), .int (iI cs), .int (iI tg), .int (iI op), .int (iI sz1), .int (iI ct)])), (b, .inr (0, [.ref r, .int (iI z)])), (r, .inl (cA, w, .inl (fun j => bI (t j))))] sz) [(h, .inr (1, [.int (iI kd'), .int (iI cs'), .int (iI tg'), .int (iI op'), .int (iI sz'), .int (iI ct')])), (b, .inr (0, [.ref r, .int (iI z)])), (r, .inl (cA, w, .inl (fun j => bI (t j))))]) (va_A [(h, .inr (1, [.int (iI kd), .int (iI cs), .int (iI tg), .int (iI op), .int (iI sz1), .int (iI ct)])), (b, .inr (0, [.ref r, .int (iI z)])), (r, .inl (cA, w, .inl (fun j => bI (t j))))] sz)) (va_A [(h, .inr (1, [.int (iI kd), .int (iI cs), .int (iI tg), .int (iI op), .int (iI sz1), .int (iI ct)])), (b, .inr (0, [.ref r, .int (iI z)])), (r, .inl (cA, w, .inl (fun j => bI (t j))))] sz) := by
  refine mv_ofW (cc := cX1_decode) (maxL := 7) (ret := (some .boolean)) (by decide) rfl ?_
  intro p e s m args below meth c s₁ B hml hv
  obtain ⟨rfl, hsz, hP, hK, hD0⟩ := hv
  have hx := B.exec
  have hb := B.bytes
  have hr := B.returns
  have hT : ∀ w ∈ wT, w.before _ s = true := fun w h => atoms_spec (ws := wsX1_decode) B.pre w (List.mem_cons_of_mem _ h)
  have hown : s.vm.findClass RX1 = some m.cls := findClass_of_methodNamed B.named
  have hlocks := B.notSynchronized
  subst hsz
  have hD := hD0.self (sz := s.heap.size)
  generalize hAe : va_A [(h, .inr (1, [.int (iI kd), .int (iI cs), .int (iI tg), .int (iI op), .int (iI sz1), .int (iI ct)])), (b, .inr (0, [.ref r, .int (iI z)])), (r, .inl (cA, w, .inl (fun j => bI (t j))))] s.heap.size = A at hD ⊢
  have hA : ∀ q : Nat, s.heap.size ≤ q → A q := fun q h => by rw [← hAe]; exact Or.inr h
  have hS : va_S A s.heap s.heap [] := va_S.rf
  have hP : va_P (dC, dI) vwCl [(h, .inr (1, [.int (iI kd), .int (iI cs), .int (iI tg), .int (iI op), .int (iI sz1), .int (iI ct)])), (b, .inr (0, [.ref r, .int (iI z)])), (r, .inl (cA, w, .inl (fun j => bI (t j))))] s.heap := hP
  have hl := lv_entry ([.ref h, .ref b, .int (iI i), .int (iI x), .int (iI st)]) (n := 7) (Nat.le_of_ble_eq_true rfl)
  rw [lg_entry_eq]
  generalize (lg_sl ([.ref h, .ref b, .int (iI i), .int (iI x), .int (iI st)]) ++ List.replicate (7 - (lg_sl ([.ref h, .ref b, .int (iI i), .int (iI x), .int (iI st)])).length) Slot.unset).toArray = ls at hl ⊢
  have hl : lv_has ls 7 [(0, .ref h), (1, .ref b), (2, .int (iI i)), (3, .int (iI x)), (4, .int (iI st))] := hl
  obtain ⟨hw1, hw2, hw3, hw4, hw5, hw6⟩ := id hok
  have hg8 := gd_rng hok
  refine lv_aload_n hx hb dX1_decode_0 rfl (lv_at hl 0 rfl) ?_
  refine lv_aload_n hx hb dX1_decode_1 rfl (lv_at hl 1 rfl) ?_
  refine lv_iload_n hx hb dX1_decode_2 rfl (lv_at hl 2 rfl) ?_
  refine lv_iload_n hx hb dX1_decode_3 rfl (lv_at hl 3 rfl) ?_
  have hPc := hP.sub (ws' := [(h, .inr (1, [.int (iI kd), .int (iI cs), .int (iI tg), .int (iI op), .int (iI sz1), .int (iI ct)])), (b, .inr (0, [.ref r, .int (iI z)])), (r, .inl (cA, w, .inl (fun j => bI (t j))))]) [0, 1, 2] rfl
  have hDc := hD.sub (ws' := [(h, .inr (1, [.int (iI kd), .int (iI cs), .int (iI tg), .int (iI op), .int (iI sz1), .int (iI ct)])), (b, .inr (0, [.ref r, .int (iI z)])), (r, .inl (cA, w, .inl (fun j => bI (t j))))]) [0, 1, 2] (by decide) rfl
  have hKc := hK.sub (tys' := [(cA, .byte)]) [0] rfl
  have hFc := va_free (wc := [(h, .inr (1, [.int (iI kd), .int (iI cs), .int (iI tg), .int (iI op), .int (iI sz1), .int (iI ct)])), (b, .inr (0, [.ref r, .int (iI z)])), (r, .inl (cA, w, .inl (fun j => bI (t j))))]) hD hS hA [0, 1, 2] rfl
  refine mv_call (mv_runV (As := [.ref b, .int (iI i), .int (iI x)]) (rest := []) ⟨hx, hb, hml, hown, hT⟩ (c_H_idn l dC dI s.heap.size h kd cs tg op sz1 ct b r cA w t z L i x (hok) (by omega) (by omega)) (cwV 3 hT (gV wd317 wd319 wd5 wd29 wd320) rfl rfl rfl (by decide +kernel) ⟨show 2 + 1 ≤ 3 from by omega, show 8 + (5 + 11) + 70 ≤ 100 from by omega⟩) ⟨fun a U g mk q => by obtain ⟨q0, q1, qP, qK, qD⟩ := q; exact ⟨q0, q1, qP, va_K.moved (u := U) (U := U.calling g mk a) (Vm.Alike.refl U.vm) qK, qD⟩, va_recv hKc hPc (ci := 1) (q0 := 0) rfl rfl, fun U hU hW => ⟨rfl, by rw [hU], by rw [hU]; exact hPc, va_K.moved hW.alike hKc, hDc.weaken (fun _ _ _ _ => trivial)⟩⟩ rfl rfl hl.1 rfl (lv_room (Nat.le_of_ble_eq_true rfl)) dX1_decode_4 ⟨show 0 + 0 ≤ 0 from by omega, show 0 + 0 ≤ 0 from by omega⟩) hS (fun q _ h => hFc q h) hFc (fun v3 u k1 n2 tS H1 locs ht hvm hw hB hz1 hk1 hS => ?_)
  obtain ⟨kd4, cs5, tg6, q7⟩ := u
  obtain ⟨hP1, hK1, hD1⟩ := hB
  rw [ht] at hP1
  have hK1 := va_K.moved hvm.symm hK1
  try dsimp only at hw
  obtain ⟨hP, hD⟩ := va_join (wr := []) (w1 := [(h, .inr (1, [.int (iI kd4), .int (iI cs5), .int (iI tg6), .int (iI op), .int (iI sz1), .int (iI ct)])), (b, .inr (0, [.ref r, .int (iI z)])), (r, .inl (cA, w, .inl (fun j => bI (t j))))]) hP hD [0, 1, 2] [] rfl rfl (by decide) (by decide) hk1 hFc hP1 hD1
  have hK := (hK.sub (tys' := []) [] rfl).app hK1
  generalize H1 = H at hP hS ⊢
  have hP : va_P (dC, dI) vwCl [(h, .inr (1, [.int (iI kd4), .int (iI cs5), .int (iI tg6), .int (iI op), .int (iI sz1), .int (iI ct)])), (b, .inr (0, [.ref r, .int (iI z)])), (r, .inl (cA, w, .inl (fun j => bI (t j))))] H := hP
  have hD : va_D A [(h, .inr (1, [.int (iI kd4), .int (iI cs5), .int (iI tg6), .int (iI op), .int (iI sz1), .int (iI ct)])), (b, .inr (0, [.ref r, .int (iI z)])), (r, .inl (cA, w, .inl (fun j => bI (t j))))] := hD
  have hK : va_K (dC, dI) vwCl [(cA, .byte)] s := hK
  obtain ⟨rfl, hqv3, rfl, rfl⟩ := hw
  refine W.eq (g2 := F0 m 7 ls [.int (iI q7)]) rfl ?_
  refine lv_istore (lv' := [(5, .int (iI q7)), (0, .ref h), (1, .ref b), (2, .int (iI i)), (3, .int (iI x)), (4, .int (iI st))]) hx hb dX1_decode_7 hl (by decide) rfl (fun ls hl => ?_)
  refine lv_iload hx hb dX1_decode_9 (lv_at hl 0 rfl) ?_
  refine lv_iconst (v := iI (-1)) hx hb dX1_decode_11 rfl ?_
  refine li_icmp_eq (tgt := 21) hx hb (by omega) (by omega) dX1_decode_12 (by decide) (fun c8 => ?_) (fun c8 => ?_)
  · skip
    refine lv_iconst (v := iI 0) hx hb dX1_decode_21 rfl ?_
    have hP9 := hP.sub (ws' := [(h, .inr (1, [.int (iI kd4), .int (iI cs5), .int (iI tg6), .int (iI op), .int (iI sz1), .int (iI ct)])), (b, .inr (0, [.ref r, .int (iI z)])), (r, .inl (cA, w, .inl (fun j => bI (t j))))]) [0, 1, 2] rfl
    have hD9 := hD.sub (ws' := [(h, .inr (1, [.int (iI kd4), .int (iI cs5), .int (iI tg6), .int (iI op), .int (iI sz1), .int (iI ct)])), (b, .inr (0, [.ref r, .int (iI z)])), (r, .inl (cA, w, .inl (fun j => bI (t j))))]) [0, 1, 2] (by decide) rfl
    have hK9 := hK.sub (tys' := [(cA, .byte)]) [0] rfl
    exact mv_zret hx hb hr (zb_n (by omega)) hlocks (fun tS ht hW => ⟨⟨_, (kd4, cs5, tg6, op, sz1, ct, 0), rfl, ⟨rfl, Or.inl ⟨hdr_0 (hqv3.elim (fun h => h.1) (fun h => absurd h.2.1 (by omega))), rfl⟩, rfl, rfl⟩, by rw [ht]; exact hP9, va_K.moved hW.alike hK9, hD9⟩, hS.F ht⟩) hS.2.2 dX1_decode_22
  · skip
    refine lv_iload hx hb dX1_decode_15 (lv_at hl 0 rfl) ?_
    refine lv_iload_n hx hb dX1_decode_17 rfl (lv_at hl 4 rfl) ?_
    refine li_icmp_lt (tgt := 23) hx hb (by omega) (by omega) dX1_decode_18 (by decide) (fun c9 => ?_) (fun c9 => ?_)
    · skip
      refine lv_aload_n hx hb dX1_decode_23 rfl (lv_at hl 2 rfl) ?_
      refine lv_iload hx hb dX1_decode_24 (lv_at hl 0 rfl) ?_
      have hPc := hP.sub (ws' := [(b, .inr (0, [.ref r, .int (iI z)])), (r, .inl (cA, w, .inl (fun j => bI (t j))))]) [1, 2] rfl
      have hDc := hD.sub (ws' := [(b, .inr (0, [.ref r, .int (iI z)])), (r, .inl (cA, w, .inl (fun j => bI (t j))))]) [1, 2] (by decide) rfl
      have hKc := hK.sub (tys' := [(cA, .byte)]) [0] rfl
      have hFc := va_free (wc := [(b, .inr (0, [.ref r, .int (iI z)])), (r, .inl (cA, w, .inl (fun j => bI (t j))))]) hD hS hA [1, 2] rfl
      refine mv_call (mv_runV (As := [.int (iI q7)]) (rest := []) ⟨hx, hb, hml, hown, hT⟩ (c_B_at l dC dI H.size b r cA w t z L q7 (hok) (by omega)) (cwV 1 hT (gV wd321 wd322 wd323 wd27 wd324) rfl rfl rfl (by decide +kernel) ⟨show 0 + 1 ≤ 3 from by omega, show 8 + (2 + 11) + 0 ≤ 100 from by omega⟩) ⟨fun a U g mk q => by obtain ⟨q0, q1, qP, qK, qD⟩ := q; exact ⟨q0, q1, qP, va_K.moved (u := U) (U := U.calling g mk a) (Vm.Alike.refl U.vm) qK, qD⟩, va_recv hKc hPc (ci := 0) (q0 := 0) rfl rfl, fun U hU hW => ⟨rfl, by rw [hU], by rw [hU]; exact hPc, va_K.moved hW.alike hKc, hDc.weaken (fun _ _ _ _ => trivial)⟩⟩ rfl rfl hl.1 rfl (lv_room (Nat.le_of_ble_eq_true rfl)) dX1_decode_26 ⟨show 0 + 0 + 0 ≤ 0 from by omega, show 0 + 0 + 0 ≤ 0 from by omega⟩) hS (fun q _ h => hFc q h) hFc (fun v12 u k10 n11 tS H1 locs ht hvm hw hB hz1 hk1 hS => ?_)
      obtain ⟨hP1, hK1, hD1⟩ := hB
      rw [ht] at hP1
      have hK1 := va_K.moved hvm.symm hK1
      try dsimp only at hw
      obtain ⟨hP, hD⟩ := va_join (wr := [(h, .inr (1, [.int (iI kd4), .int (iI cs5), .int (iI tg6), .int (iI op), .int (iI sz1), .int (iI ct)]))]) (w1 := [(b, .inr (0, [.ref r, .int (iI z)])), (r, .inl (cA, w, .inl (fun j => bI (t j))))]) hP hD [1, 2] [0] rfl rfl (by decide) (by decide) hk1 hFc hP1 hD1
      have hK := (hK.sub (tys' := []) [] rfl).app hK1
      generalize H1 = H at hP hS ⊢
      have hP : va_P (dC, dI) vwCl [(h, .inr (1, [.int (iI kd4), .int (iI cs5), .int (iI tg6), .int (iI op), .int (iI sz1), .int (iI ct)])), (b, .inr (0, [.ref r, .int (iI z)])), (r, .inl (cA, w, .inl (fun j => bI (t j))))] H := hP
      have hD : va_D A [(h, .inr (1, [.int (iI kd4), .int (iI cs5), .int (iI tg6), .int (iI op), .int (iI sz1), .int (iI ct)])), (b, .inr (0, [.ref r, .int (iI z)])), (r, .inl (cA, w, .inl (fun j => bI (t j))))] := hD
      have hK : va_K (dC, dI) vwCl [(cA, .byte)] s := hK
      obtain ⟨rfl, rfl, rfl⟩ := hw
      refine W.eq (g2 := F0 m 29 ls [.int (iI (gd L q7))]) rfl ?_
      refine li_nm (fun z13 ez13 => ?_)
      refine lv_istore (lv' := [(6, .int (iI z13)), (5, .int (iI q7)), (0, .ref h), (1, .ref b), (2, .int (iI i)), (3, .int (iI x)), (4, .int (iI st))]) hx hb dX1_decode_29 hl (by decide) rfl (fun ls hl => ?_)
      have hgq := hg8 q7
      refine lv_aload_n hx hb dX1_decode_31 rfl (lv_at hl 2 rfl) ?_
      refine lv_iload hx hb dX1_decode_32 (lv_at hl 0 rfl) ?_
      refine lv_sipush (v := iI 128) hx hb dX1_decode_34 (by decide +kernel) ?_
      refine li_icmp_ne (tgt := 44) hx hb (by omega) (by omega) dX1_decode_37 (by decide) (fun c14 => ?_) (fun c14 => ?_)
      · skip
        refine lv_iconst (v := iI 0) hx hb dX1_decode_44 rfl ?_
        refine va_put (D := (dC, dI)) (ci := 1) (v := .int (iI 0)) (ty := .boolean) (C := RX1) (T := TX1) (N := 6) hx hb hT inX1 tyX1 tyX1_ok nX1 hown hK hP hD hS 0 rfl rfl 3 (by decide) (hT _ wd84) (fun _ h9 => h9) rfl (by decide +kernel) (zb_n (by omega)) (zb_f (by omega)) (Nat.le_of_ble_eq_true rfl) dX1_decode_45 (fun H locs hP hD hS => ?_)
        have hP : va_P (dC, dI) vwCl [(h, .inr (1, [.int (iI kd4), .int (iI cs5), .int (iI tg6), .int (iI 0), .int (iI sz1), .int (iI ct)])), (b, .inr (0, [.ref r, .int (iI z)])), (r, .inl (cA, w, .inl (fun j => bI (t j))))] H := hP
        have hD : va_D A [(h, .inr (1, [.int (iI kd4), .int (iI cs5), .int (iI tg6), .int (iI 0), .int (iI sz1), .int (iI ct)])), (b, .inr (0, [.ref r, .int (iI z)])), (r, .inl (cA, w, .inl (fun j => bI (t j))))] := hD
        refine lv_aload_n hx hb dX1_decode_48 rfl (lv_at hl 2 rfl) ?_
        refine lv_iconst (v := iI 0) hx hb dX1_decode_49 rfl ?_
        refine va_put (D := (dC, dI)) (ci := 1) (v := .int (iI 0)) (ty := .int) (C := RX1) (T := TX1) (N := 6) hx hb hT inX1 tyX1 tyX1_ok nX1 hown hK hP hD hS 0 rfl rfl 4 (by decide) (hT _ wd86) (fun _ h9 => h9) rfl (by decide +kernel) rfl rfl (Nat.le_of_ble_eq_true rfl) dX1_decode_50 (fun H locs hP hD hS => ?_)
        have hP : va_P (dC, dI) vwCl [(h, .inr (1, [.int (iI kd4), .int (iI cs5), .int (iI tg6), .int (iI 0), .int (iI 0), .int (iI ct)])), (b, .inr (0, [.ref r, .int (iI z)])), (r, .inl (cA, w, .inl (fun j => bI (t j))))] H := hP
        have hD : va_D A [(h, .inr (1, [.int (iI kd4), .int (iI cs5), .int (iI tg6), .int (iI 0), .int (iI 0), .int (iI ct)])), (b, .inr (0, [.ref r, .int (iI z)])), (r, .inl (cA, w, .inl (fun j => bI (t j))))] := hD
        refine lv_aload_n hx hb dX1_decode_53 rfl (lv_at hl 2 rfl) ?_
        refine lv_iload hx hb dX1_decode_54 (lv_at hl 1 rfl) ?_
        refine lv_iconst (v := iI 1) hx hb dX1_decode_56 rfl ?_
        refine li_iadd hx hb dX1_decode_57 ?_
        refine li_nm (fun z15 ez15 => ?_)
        refine va_put (D := (dC, dI)) (ci := 1) (v := .int (iI z15)) (ty := .int) (C := RX1) (T := TX1) (N := 6) hx hb hT inX1 tyX1 tyX1_ok nX1 hown hK hP hD hS 0 rfl rfl 5 (by decide) (hT _ wd88) (fun _ h9 => h9) rfl (by decide +kernel) rfl rfl (Nat.le_of_ble_eq_true rfl) dX1_decode_58 (fun H locs hP hD hS => ?_)
        have hP : va_P (dC, dI) vwCl [(h, .inr (1, [.int (iI kd4), .int (iI cs5), .int (iI tg6), .int (iI 0), .int (iI 0), .int (iI z15)])), (b, .inr (0, [.ref r, .int (iI z)])), (r, .inl (cA, w, .inl (fun j => bI (t j))))] H := hP
        have hD : va_D A [(h, .inr (1, [.int (iI kd4), .int (iI cs5), .int (iI tg6), .int (iI 0), .int (iI 0), .int (iI z15)])), (b, .inr (0, [.ref r, .int (iI z)])), (r, .inl (cA, w, .inl (fun j => bI (t j))))] := hD
        refine lv_aload_n hx hb dX1_decode_61 rfl (lv_at hl 2 rfl) ?_
        refine va_get (D := (dC, dI)) (ci := 1) (v := .int (iI 0)) (C := RX1) (T := TX1) (N := 6) hx hb hT inX1 hown hK hP 0 rfl rfl 3 (by decide) (hT _ wd84) (fun _ h9 => h9) rfl dX1_decode_62 ?_
        refine li_if_eq (tgt := 86) hx hb (by omega) dX1_decode_65 (by decide) (fun c16 => ?_) (fun c16 => absurd c16 (by omega))
        refine lv_iload hx hb dX1_decode_86 (lv_at hl 0 rfl) ?_
        refine lv_sipush (v := iI 128) hx hb dX1_decode_88 (by decide +kernel) ?_
        refine li_icmp_ge (tgt := 103) hx hb (by omega) (by omega) dX1_decode_91 (by decide) (fun c17 => ?_) (fun c17 => ?_)
        · skip
          refine lv_aload_n hx hb dX1_decode_103 rfl (lv_at hl 2 rfl) ?_
          refine lv_aload_n hx hb dX1_decode_104 rfl (lv_at hl 3 rfl) ?_
          refine lv_iload hx hb dX1_decode_105 (lv_at hl 0 rfl) ?_
          refine lv_sipush (v := iI 128) hx hb dX1_decode_107 (by decide +kernel) ?_
          refine li_isub hx hb dX1_decode_110 ?_
          refine lv_iload_n hx hb dX1_decode_111 rfl (lv_at hl 5 rfl) ?_
          refine lv_iload hx hb dX1_decode_112 (lv_at hl 6 rfl) ?_
          have hPc := hP.sub (ws' := [(h, .inr (1, [.int (iI kd4), .int (iI cs5), .int (iI tg6), .int (iI 0), .int (iI 0), .int (iI z15)])), (b, .inr (0, [.ref r, .int (iI z)])), (r, .inl (cA, w, .inl (fun j => bI (t j))))]) [0, 1, 2] rfl
          have hDc := hD.sub (ws' := [(h, .inr (1, [.int (iI kd4), .int (iI cs5), .int (iI tg6), .int (iI 0), .int (iI 0), .int (iI z15)])), (b, .inr (0, [.ref r, .int (iI z)])), (r, .inl (cA, w, .inl (fun j => bI (t j))))]) [0, 1, 2] (by decide) rfl
          have hKc := hK.sub (tys' := [(cA, .byte)]) [0] rfl
          have hFc := va_free (wc := [(h, .inr (1, [.int (iI kd4), .int (iI cs5), .int (iI tg6), .int (iI 0), .int (iI 0), .int (iI z15)])), (b, .inr (0, [.ref r, .int (iI z)])), (r, .inl (cA, w, .inl (fun j => bI (t j))))]) hD hS hA [0, 1, 2] rfl
          refine mv_call (mv_runV (As := [.ref b, .int (iI (z13 - 128)), .int (iI x), .int (iI st)]) (rest := []) ⟨hx, hb, hml, hown, hT⟩ (c_H_llen l dC dI H.size h kd4 cs5 tg6 0 z15 b r cA w t z L (z13 - 128) x st (hok) (by omega) (by omega) (by omega) (by omega)) (cwV 4 hT (gV wd332 wd334 wd7 wd29 wd335) rfl rfl rfl (by decide +kernel) ⟨show 1 + 1 ≤ 3 from by omega, show 8 + (7 + 11) + 40 ≤ 100 from by omega⟩) ⟨fun a U g mk q => by obtain ⟨q0, q1, qP, qK, qD⟩ := q; exact ⟨q0, q1, qP, va_K.moved (u := U) (U := U.calling g mk a) (Vm.Alike.refl U.vm) qK, qD⟩, va_recv hKc hPc (ci := 1) (q0 := 0) rfl rfl, fun U hU hW => ⟨rfl, by rw [hU], by rw [hU]; exact hPc, va_K.moved hW.alike hKc, hDc.weaken (fun _ _ _ _ => trivial)⟩⟩ rfl rfl hl.1 rfl (lv_room (Nat.le_of_ble_eq_true rfl)) dX1_decode_114 ⟨show 0 + 0 + 0 + 0 ≤ 0 from by omega, show 0 + 0 + 0 + 0 ≤ 0 from by omega⟩) hS (fun q _ h => hFc q h) hFc (fun v20 u k18 n19 tS H1 locs ht hvm hw hB hz1 hk1 hS => ?_)
          obtain ⟨sz21, ct22, q23⟩ := u
          obtain ⟨hP1, hK1, hD1⟩ := hB
          rw [ht] at hP1
          have hK1 := va_K.moved hvm.symm hK1
          try dsimp only at hw
          obtain ⟨hP, hD⟩ := va_join (wr := []) (w1 := [(h, .inr (1, [.int (iI kd4), .int (iI cs5), .int (iI tg6), .int (iI 0), .int (iI sz21), .int (iI ct22)])), (b, .inr (0, [.ref r, .int (iI z)])), (r, .inl (cA, w, .inl (fun j => bI (t j))))]) hP hD [0, 1, 2] [] rfl rfl (by decide) (by decide) hk1 hFc hP1 hD1
          have hK := (hK.sub (tys' := []) [] rfl).app hK1
          generalize H1 = H at hP hS ⊢
          have hP : va_P (dC, dI) vwCl [(h, .inr (1, [.int (iI kd4), .int (iI cs5), .int (iI tg6), .int (iI 0), .int (iI sz21), .int (iI ct22)])), (b, .inr (0, [.ref r, .int (iI z)])), (r, .inl (cA, w, .inl (fun j => bI (t j))))] H := hP
          have hD : va_D A [(h, .inr (1, [.int (iI kd4), .int (iI cs5), .int (iI tg6), .int (iI 0), .int (iI sz21), .int (iI ct22)])), (b, .inr (0, [.ref r, .int (iI z)])), (r, .inl (cA, w, .inl (fun j => bI (t j))))] := hD
          have hK : va_K (dC, dI) vwCl [(cA, .byte)] s := hK
          obtain ⟨rfl, hqv20, rfl, rfl⟩ := hw
          refine W.eq (g2 := F0 m 117 ls [.int (iI q23)]) rfl ?_
          refine li_if_ne (tgt := 122) hx hb (by omega) dX1_decode_117 (by decide) (fun c24 => ?_) (fun c24 => ?_)
          · skip
            refine lv_aload_n hx hb dX1_decode_122 rfl (lv_at hl 2 rfl) ?_
            refine va_get (D := (dC, dI)) (ci := 1) (v := .int (iI sz21)) (C := RX1) (T := TX1) (N := 6) hx hb hT inX1 hown hK hP 0 rfl rfl 4 (by decide) (hT _ wd86) (fun _ h9 => h9) rfl dX1_decode_123 ?_
            refine lv_iload_n hx hb dX1_decode_126 rfl (lv_at hl 5 rfl) ?_
            refine lv_aload_n hx hb dX1_decode_127 rfl (lv_at hl 2 rfl) ?_
            refine va_get (D := (dC, dI)) (ci := 1) (v := .int (iI ct22)) (C := RX1) (T := TX1) (N := 6) hx hb hT inX1 hown hK hP 0 rfl rfl 5 (by decide) (hT _ wd88) (fun _ h9 => h9) rfl dX1_decode_128 ?_
            refine li_isub hx hb dX1_decode_131 ?_
            refine li_icmp_gt (tgt := 139) hx hb (by omega) (by omega) dX1_decode_132 (by decide) (fun c25 => ?_) (fun c25 => ?_)
            · skip
              refine lv_iconst (v := iI 0) hx hb dX1_decode_139 rfl ?_
              have hLS := (hqv20.resolve_left (fun h => absurd h.2 (by omega))).1
              have hP9 := hP.sub (ws' := [(h, .inr (1, [.int (iI kd4), .int (iI cs5), .int (iI tg6), .int (iI 0), .int (iI sz21), .int (iI ct22)])), (b, .inr (0, [.ref r, .int (iI z)])), (r, .inl (cA, w, .inl (fun j => bI (t j))))]) [0, 1, 2] rfl
              have hD9 := hD.sub (ws' := [(h, .inr (1, [.int (iI kd4), .int (iI cs5), .int (iI tg6), .int (iI 0), .int (iI sz21), .int (iI ct22)])), (b, .inr (0, [.ref r, .int (iI z)])), (r, .inl (cA, w, .inl (fun j => bI (t j))))]) [0, 1, 2] (by decide) rfl
              have hK9 := hK.sub (tys' := [(cA, .byte)]) [0] rfl
              exact mv_zret hx hb hr (zb_n (by omega)) hlocks (fun tS ht hW => ⟨⟨_, (kd4, cs5, tg6, 0, sz21, ct22, 0), rfl, ⟨rfl, Or.inl ⟨hdr_l2 (c2 := ct22) (hqv3.elim (fun h => absurd h.2 (by omega)) (fun h => h.1)) (by omega) (by omega) (by omega) (by omega) hLS (by omega) (by omega), rfl⟩, rfl, rfl⟩, by rw [ht]; exact hP9, va_K.moved hW.alike hK9, hD9⟩, hS.F ht⟩) hS.2.2 dX1_decode_140
            · skip
              refine lv_iconst (v := iI 1) hx hb dX1_decode_135 rfl ?_
              refine lv_goto (tgt := 140) hx hb dX1_decode_136 (by decide) ?_
              have hLS := (hqv20.resolve_left (fun h => absurd h.2 (by omega))).1
              have hP9 := hP.sub (ws' := [(h, .inr (1, [.int (iI kd4), .int (iI cs5), .int (iI tg6), .int (iI 0), .int (iI sz21), .int (iI ct22)])), (b, .inr (0, [.ref r, .int (iI z)])), (r, .inl (cA, w, .inl (fun j => bI (t j))))]) [0, 1, 2] rfl
              have hD9 := hD.sub (ws' := [(h, .inr (1, [.int (iI kd4), .int (iI cs5), .int (iI tg6), .int (iI 0), .int (iI sz21), .int (iI ct22)])), (b, .inr (0, [.ref r, .int (iI z)])), (r, .inl (cA, w, .inl (fun j => bI (t j))))]) [0, 1, 2] (by decide) rfl
              have hK9 := hK.sub (tys' := [(cA, .byte)]) [0] rfl
              exact mv_zret hx hb hr (zb_n (by omega)) hlocks (fun tS ht hW => ⟨⟨_, (kd4, cs5, tg6, 0, sz21, ct22, 1), rfl, ⟨rfl, Or.inr ⟨hdr_l1 (hqv3.elim (fun h => absurd h.2 (by omega)) (fun h => h.1)) (by omega) (by omega) (by omega) (by omega) hLS (by omega) (by omega), rfl, by omega⟩, rfl, rfl⟩, by rw [ht]; exact hP9, va_K.moved hW.alike hK9, hD9⟩, hS.F ht⟩) hS.2.2 dX1_decode_140
          · skip
            refine lv_iconst (v := iI 0) hx hb dX1_decode_120 rfl ?_
            have hLN := (hqv20.resolve_right (fun h => absurd h.2.2.1 (by omega))).1
            have hP9 := hP.sub (ws' := [(h, .inr (1, [.int (iI kd4), .int (iI cs5), .int (iI tg6), .int (iI 0), .int (iI sz21), .int (iI ct22)])), (b, .inr (0, [.ref r, .int (iI z)])), (r, .inl (cA, w, .inl (fun j => bI (t j))))]) [0, 1, 2] rfl
            have hD9 := hD.sub (ws' := [(h, .inr (1, [.int (iI kd4), .int (iI cs5), .int (iI tg6), .int (iI 0), .int (iI sz21), .int (iI ct22)])), (b, .inr (0, [.ref r, .int (iI z)])), (r, .inl (cA, w, .inl (fun j => bI (t j))))]) [0, 1, 2] (by decide) rfl
            have hK9 := hK.sub (tys' := [(cA, .byte)]) [0] rfl
            exact mv_zret hx hb hr (zb_n (by omega)) hlocks (fun tS ht hW => ⟨⟨_, (kd4, cs5, tg6, 0, sz21, ct22, 0), rfl, ⟨rfl, Or.inl ⟨hdr_l0 (hqv3.elim (fun h => absurd h.2 (by omega)) (fun h => h.1)) (by omega) (by omega) (by omega) (by omega) hLN, rfl⟩, rfl, rfl⟩, by rw [ht]; exact hP9, va_K.moved hW.alike hK9, hD9⟩, hS.F ht⟩) hS.2.2 dX1_decode_121
        · skip
          refine lv_aload_n hx hb dX1_decode_94 rfl (lv_at hl 2 rfl) ?_
          refine lv_iload hx hb dX1_decode_95 (lv_at hl 0 rfl) ?_
          refine va_put (D := (dC, dI)) (ci := 1) (v := .int (iI z13)) (ty := .int) (C := RX1) (T := TX1) (N := 6) hx hb hT inX1 tyX1 tyX1_ok nX1 hown hK hP hD hS 0 rfl rfl 4 (by decide) (hT _ wd86) (fun _ h9 => h9) rfl (by decide +kernel) rfl rfl (Nat.le_of_ble_eq_true rfl) dX1_decode_97 (fun H locs hP hD hS => ?_)
          have hP : va_P (dC, dI) vwCl [(h, .inr (1, [.int (iI kd4), .int (iI cs5), .int (iI tg6), .int (iI 0), .int (iI z13), .int (iI z15)])), (b, .inr (0, [.ref r, .int (iI z)])), (r, .inl (cA, w, .inl (fun j => bI (t j))))] H := hP
          have hD : va_D A [(h, .inr (1, [.int (iI kd4), .int (iI cs5), .int (iI tg6), .int (iI 0), .int (iI z13), .int (iI z15)])), (b, .inr (0, [.ref r, .int (iI z)])), (r, .inl (cA, w, .inl (fun j => bI (t j))))] := hD
          refine lv_goto (tgt := 122) hx hb dX1_decode_100 (by decide) ?_
          refine lv_aload_n hx hb dX1_decode_122 rfl (lv_at hl 2 rfl) ?_
          refine va_get (D := (dC, dI)) (ci := 1) (v := .int (iI z13)) (C := RX1) (T := TX1) (N := 6) hx hb hT inX1 hown hK hP 0 rfl rfl 4 (by decide) (hT _ wd86) (fun _ h9 => h9) rfl dX1_decode_123 ?_
          refine lv_iload_n hx hb dX1_decode_126 rfl (lv_at hl 5 rfl) ?_
          refine lv_aload_n hx hb dX1_decode_127 rfl (lv_at hl 2 rfl) ?_
          refine va_get (D := (dC, dI)) (ci := 1) (v := .int (iI z15)) (C := RX1) (T := TX1) (N := 6) hx hb hT inX1 hown hK hP 0 rfl rfl 5 (by decide) (hT _ wd88) (fun _ h9 => h9) rfl dX1_decode_128 ?_
          refine li_isub hx hb dX1_decode_131 ?_
          refine li_icmp_gt (tgt := 139) hx hb (by omega) (by omega) dX1_decode_132 (by decide) (fun c26 => ?_) (fun c26 => ?_)
          · skip
            refine lv_iconst (v := iI 0) hx hb dX1_decode_139 rfl ?_
            have hP9 := hP.sub (ws' := [(h, .inr (1, [.int (iI kd4), .int (iI cs5), .int (iI tg6), .int (iI 0), .int (iI z13), .int (iI z15)])), (b, .inr (0, [.ref r, .int (iI z)])), (r, .inl (cA, w, .inl (fun j => bI (t j))))]) [0, 1, 2] rfl
            have hD9 := hD.sub (ws' := [(h, .inr (1, [.int (iI kd4), .int (iI cs5), .int (iI tg6), .int (iI 0), .int (iI z13), .int (iI z15)])), (b, .inr (0, [.ref r, .int (iI z)])), (r, .inl (cA, w, .inl (fun j => bI (t j))))]) [0, 1, 2] (by decide) rfl
            have hK9 := hK.sub (tys' := [(cA, .byte)]) [0] rfl
            exact mv_zret hx hb hr (zb_n (by omega)) hlocks (fun tS ht hW => ⟨⟨_, (kd4, cs5, tg6, 0, z13, z15, 0), rfl, ⟨rfl, Or.inl ⟨hdr_s0 (hqv3.elim (fun h => absurd h.2 (by omega)) (fun h => h.1)) (by omega) (by omega) (by omega), rfl⟩, rfl, rfl⟩, by rw [ht]; exact hP9, va_K.moved hW.alike hK9, hD9⟩, hS.F ht⟩) hS.2.2 dX1_decode_140
          · skip
            refine lv_iconst (v := iI 1) hx hb dX1_decode_135 rfl ?_
            refine lv_goto (tgt := 140) hx hb dX1_decode_136 (by decide) ?_
            have hP9 := hP.sub (ws' := [(h, .inr (1, [.int (iI kd4), .int (iI cs5), .int (iI tg6), .int (iI 0), .int (iI z13), .int (iI z15)])), (b, .inr (0, [.ref r, .int (iI z)])), (r, .inl (cA, w, .inl (fun j => bI (t j))))]) [0, 1, 2] rfl
            have hD9 := hD.sub (ws' := [(h, .inr (1, [.int (iI kd4), .int (iI cs5), .int (iI tg6), .int (iI 0), .int (iI z13), .int (iI z15)])), (b, .inr (0, [.ref r, .int (iI z)])), (r, .inl (cA, w, .inl (fun j => bI (t j))))]) [0, 1, 2] (by decide) rfl
            have hK9 := hK.sub (tys' := [(cA, .byte)]) [0] rfl
            exact mv_zret hx hb hr (zb_n (by omega)) hlocks (fun tS ht hW => ⟨⟨_, (kd4, cs5, tg6, 0, z13, z15, 1), rfl, ⟨rfl, Or.inr ⟨hdr_s1 (hqv3.elim (fun h => absurd h.2 (by omega)) (fun h => h.1)) (by omega) (by omega) (by omega) (by omega) (by omega), rfl, by omega⟩, rfl, rfl⟩, by rw [ht]; exact hP9, va_K.moved hW.alike hK9, hD9⟩, hS.F ht⟩) hS.2.2 dX1_decode_140
      · skip
        refine lv_iconst (v := iI 1) hx hb dX1_decode_40 rfl ?_
        refine lv_goto (tgt := 45) hx hb dX1_decode_41 (by decide) ?_
        refine va_put (D := (dC, dI)) (ci := 1) (v := .int (iI 1)) (ty := .boolean) (C := RX1) (T := TX1) (N := 6) hx hb hT inX1 tyX1 tyX1_ok nX1 hown hK hP hD hS 0 rfl rfl 3 (by decide) (hT _ wd84) (fun _ h9 => h9) rfl (by decide +kernel) (zb_n (by omega)) (zb_f (by omega)) (Nat.le_of_ble_eq_true rfl) dX1_decode_45 (fun H locs hP hD hS => ?_)
        have hP : va_P (dC, dI) vwCl [(h, .inr (1, [.int (iI kd4), .int (iI cs5), .int (iI tg6), .int (iI 1), .int (iI sz1), .int (iI ct)])), (b, .inr (0, [.ref r, .int (iI z)])), (r, .inl (cA, w, .inl (fun j => bI (t j))))] H := hP
        have hD : va_D A [(h, .inr (1, [.int (iI kd4), .int (iI cs5), .int (iI tg6), .int (iI 1), .int (iI sz1), .int (iI ct)])), (b, .inr (0, [.ref r, .int (iI z)])), (r, .inl (cA, w, .inl (fun j => bI (t j))))] := hD
        refine lv_aload_n hx hb dX1_decode_48 rfl (lv_at hl 2 rfl) ?_
        refine lv_iconst (v := iI 0) hx hb dX1_decode_49 rfl ?_
        refine va_put (D := (dC, dI)) (ci := 1) (v := .int (iI 0)) (ty := .int) (C := RX1) (T := TX1) (N := 6) hx hb hT inX1 tyX1 tyX1_ok nX1 hown hK hP hD hS 0 rfl rfl 4 (by decide) (hT _ wd86) (fun _ h9 => h9) rfl (by decide +kernel) rfl rfl (Nat.le_of_ble_eq_true rfl) dX1_decode_50 (fun H locs hP hD hS => ?_)
        have hP : va_P (dC, dI) vwCl [(h, .inr (1, [.int (iI kd4), .int (iI cs5), .int (iI tg6), .int (iI 1), .int (iI 0), .int (iI ct)])), (b, .inr (0, [.ref r, .int (iI z)])), (r, .inl (cA, w, .inl (fun j => bI (t j))))] H := hP
        have hD : va_D A [(h, .inr (1, [.int (iI kd4), .int (iI cs5), .int (iI tg6), .int (iI 1), .int (iI 0), .int (iI ct)])), (b, .inr (0, [.ref r, .int (iI z)])), (r, .inl (cA, w, .inl (fun j => bI (t j))))] := hD
        refine lv_aload_n hx hb dX1_decode_53 rfl (lv_at hl 2 rfl) ?_
        refine lv_iload hx hb dX1_decode_54 (lv_at hl 1 rfl) ?_
        refine lv_iconst (v := iI 1) hx hb dX1_decode_56 rfl ?_
        refine li_iadd hx hb dX1_decode_57 ?_
        refine li_nm (fun z27 ez27 => ?_)
        refine va_put (D := (dC, dI)) (ci := 1) (v := .int (iI z27)) (ty := .int) (C := RX1) (T := TX1) (N := 6) hx hb hT inX1 tyX1 tyX1_ok nX1 hown hK hP hD hS 0 rfl rfl 5 (by decide) (hT _ wd88) (fun _ h9 => h9) rfl (by decide +kernel) rfl rfl (Nat.le_of_ble_eq_true rfl) dX1_decode_58 (fun H locs hP hD hS => ?_)
        have hP : va_P (dC, dI) vwCl [(h, .inr (1, [.int (iI kd4), .int (iI cs5), .int (iI tg6), .int (iI 1), .int (iI 0), .int (iI z27)])), (b, .inr (0, [.ref r, .int (iI z)])), (r, .inl (cA, w, .inl (fun j => bI (t j))))] H := hP
        have hD : va_D A [(h, .inr (1, [.int (iI kd4), .int (iI cs5), .int (iI tg6), .int (iI 1), .int (iI 0), .int (iI z27)])), (b, .inr (0, [.ref r, .int (iI z)])), (r, .inl (cA, w, .inl (fun j => bI (t j))))] := hD
        refine lv_aload_n hx hb dX1_decode_61 rfl (lv_at hl 2 rfl) ?_
        refine va_get (D := (dC, dI)) (ci := 1) (v := .int (iI 1)) (C := RX1) (T := TX1) (N := 6) hx hb hT inX1 hown hK hP 0 rfl rfl 3 (by decide) (hT _ wd84) (fun _ h9 => h9) rfl dX1_decode_62 ?_
        refine li_if_eq (tgt := 86) hx hb (by omega) dX1_decode_65 (by decide) (fun c28 => absurd c28 (by omega)) (fun c28 => ?_)
        refine lv_aload_n hx hb dX1_decode_68 rfl (lv_at hl 2 rfl) ?_
        refine va_get (D := (dC, dI)) (ci := 1) (v := .int (iI cs5)) (C := RX1) (T := TX1) (N := 6) hx hb hT inX1 hown hK hP 0 rfl rfl 1 (by decide) (hT _ wd80) (fun _ h9 => h9) rfl dX1_decode_69 ?_
        refine li_if_eq (tgt := 84) hx hb (by omega) dX1_decode_72 (by decide) (fun c29 => ?_) (fun c29 => ?_)
        · skip
          refine lv_iconst (v := iI 0) hx hb dX1_decode_84 rfl ?_
          have hP9 := hP.sub (ws' := [(h, .inr (1, [.int (iI kd4), .int (iI cs5), .int (iI tg6), .int (iI 1), .int (iI 0), .int (iI z27)])), (b, .inr (0, [.ref r, .int (iI z)])), (r, .inl (cA, w, .inl (fun j => bI (t j))))]) [0, 1, 2] rfl
          have hD9 := hD.sub (ws' := [(h, .inr (1, [.int (iI kd4), .int (iI cs5), .int (iI tg6), .int (iI 1), .int (iI 0), .int (iI z27)])), (b, .inr (0, [.ref r, .int (iI z)])), (r, .inl (cA, w, .inl (fun j => bI (t j))))]) [0, 1, 2] (by decide) rfl
          have hK9 := hK.sub (tys' := [(cA, .byte)]) [0] rfl
          exact mv_zret hx hb hr (zb_n (by omega)) hlocks (fun tS ht hW => ⟨⟨_, (kd4, cs5, tg6, 1, 0, z27, 0), rfl, ⟨rfl, Or.inl ⟨hdr_o0 (hqv3.elim (fun h => absurd h.2 (by omega)) (fun h => h.1)) (by omega) (by omega) (by omega), rfl⟩, rfl, rfl⟩, by rw [ht]; exact hP9, va_K.moved hW.alike hK9, hD9⟩, hS.F ht⟩) hS.2.2 dX1_decode_85
        · skip
          refine lv_iload hx hb dX1_decode_75 (lv_at hl 6 rfl) ?_
          refine li_if_ne (tgt := 84) hx hb (by omega) dX1_decode_77 (by decide) (fun c30 => ?_) (fun c30 => ?_)
          · skip
            refine lv_iconst (v := iI 0) hx hb dX1_decode_84 rfl ?_
            have hP9 := hP.sub (ws' := [(h, .inr (1, [.int (iI kd4), .int (iI cs5), .int (iI tg6), .int (iI 1), .int (iI 0), .int (iI z27)])), (b, .inr (0, [.ref r, .int (iI z)])), (r, .inl (cA, w, .inl (fun j => bI (t j))))]) [0, 1, 2] rfl
            have hD9 := hD.sub (ws' := [(h, .inr (1, [.int (iI kd4), .int (iI cs5), .int (iI tg6), .int (iI 1), .int (iI 0), .int (iI z27)])), (b, .inr (0, [.ref r, .int (iI z)])), (r, .inl (cA, w, .inl (fun j => bI (t j))))]) [0, 1, 2] (by decide) rfl
            have hK9 := hK.sub (tys' := [(cA, .byte)]) [0] rfl
            exact mv_zret hx hb hr (zb_n (by omega)) hlocks (fun tS ht hW => ⟨⟨_, (kd4, cs5, tg6, 1, 0, z27, 0), rfl, ⟨rfl, Or.inl ⟨hdr_o0 (hqv3.elim (fun h => absurd h.2 (by omega)) (fun h => h.1)) (by omega) (by omega) (by omega), rfl⟩, rfl, rfl⟩, by rw [ht]; exact hP9, va_K.moved hW.alike hK9, hD9⟩, hS.F ht⟩) hS.2.2 dX1_decode_85
          · skip
            refine lv_iconst (v := iI 1) hx hb dX1_decode_80 rfl ?_
            refine lv_goto (tgt := 85) hx hb dX1_decode_81 (by decide) ?_
            have hP9 := hP.sub (ws' := [(h, .inr (1, [.int (iI kd4), .int (iI cs5), .int (iI tg6), .int (iI 1), .int (iI 0), .int (iI z27)])), (b, .inr (0, [.ref r, .int (iI z)])), (r, .inl (cA, w, .inl (fun j => bI (t j))))]) [0, 1, 2] rfl
            have hD9 := hD.sub (ws' := [(h, .inr (1, [.int (iI kd4), .int (iI cs5), .int (iI tg6), .int (iI 1), .int (iI 0), .int (iI z27)])), (b, .inr (0, [.ref r, .int (iI z)])), (r, .inl (cA, w, .inl (fun j => bI (t j))))]) [0, 1, 2] (by decide) rfl
            have hK9 := hK.sub (tys' := [(cA, .byte)]) [0] rfl
            exact mv_zret hx hb hr (zb_n (by omega)) hlocks (fun tS ht hW => ⟨⟨_, (kd4, cs5, tg6, 1, 0, z27, 1), rfl, ⟨rfl, Or.inr ⟨hdr_o1 (hqv3.elim (fun h => absurd h.2 (by omega)) (fun h => h.1)) (by omega) (by omega) (by omega) (by omega), rfl, by omega⟩, rfl, rfl⟩, by rw [ht]; exact hP9, va_K.moved hW.alike hK9, hD9⟩, hS.F ht⟩) hS.2.2 dX1_decode_85
    · skip
      refine lv_iconst (v := iI 0) hx hb dX1_decode_21 rfl ?_
      have hP9 := hP.sub (ws' := [(h, .inr (1, [.int (iI kd4), .int (iI cs5), .int (iI tg6), .int (iI op), .int (iI sz1), .int (iI ct)])), (b, .inr (0, [.ref r, .int (iI z)])), (r, .inl (cA, w, .inl (fun j => bI (t j))))]) [0, 1, 2] rfl
      have hD9 := hD.sub (ws' := [(h, .inr (1, [.int (iI kd4), .int (iI cs5), .int (iI tg6), .int (iI op), .int (iI sz1), .int (iI ct)])), (b, .inr (0, [.ref r, .int (iI z)])), (r, .inl (cA, w, .inl (fun j => bI (t j))))]) [0, 1, 2] (by decide) rfl
      have hK9 := hK.sub (tys' := [(cA, .byte)]) [0] rfl
      exact mv_zret hx hb hr (zb_n (by omega)) hlocks (fun tS ht hW => ⟨⟨_, (kd4, cs5, tg6, op, sz1, ct, 0), rfl, ⟨rfl, Or.inl ⟨hdr_1 (hqv3.elim (fun h => absurd h.2 (by omega)) (fun h => h.1)) c9, rfl⟩, rfl, rfl⟩, by rw [ht]; exact hP9, va_K.moved hW.alike hK9, hD9⟩, hS.F ht⟩) hS.2.2 dX1_decode_22
end
