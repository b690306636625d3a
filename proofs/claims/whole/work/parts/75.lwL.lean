set_option maxHeartbeats 8000000 in
set_option maxRecDepth 100000 in
theorem lw_loop (l : Launch) (hl9 : l.stackTraces = false) {p : Program} {e : Env} {s : State} {m : MethodId} {below : List Frame} {meth : Method} {c : Code} {b L : Nat} {xs : Nat → Int32} {dC : Nat → ClassId} {dI : Nat → Nat → Nat} {A : Nat → Prop} (hL : L ≤ 3072) (C0 : lw_At p s m meth c b L xs) (hAe : ∀ q, A q ↔ s.heap.size ≤ q) (hX : xsE A s) : ∀ fu : Nat, lw_LH p l e s m below meth c b L dC dI A 23 0 fu := by
  obtain ⟨hx, hb, hr, hml, hown0, hts, hXs, hbl, hlocks, hgv⟩ := id C0
  have hT : ∀ w ∈ wT, w.before #[Value.ref b] s = true := fun w h => hts w (wT_in h)
  have hown : s.vm.findClass RL = some m.cls := hown0
  have hA : ∀ q : Nat, s.heap.size ≤ q → A q := fun q h => (hAe q).mpr h
  have hbA : ¬ A b := fun h => Nat.not_le.mpr hbl ((hAe b).mp h)
  intro fu
  induction fu with
  | zero =>
    intro ii x tb pb nd sp tr tA tw tt tl pr pA pw ptt pl nb nh nrw nmn nsx nR nM nV nkd ncs ntg nop nsg nct nr nA nw nt nz sb sh srw smn ssx sR sM sV skd scs stg sop ssg sct sr sA sw stt szz mm mfl ta ka da ya mpt mmd msx cT mt cK kt cD Vt cY Y ot cO gg LT LN LS H locs ls kc ks hfu hii hok hokp hoN hokN hoM hokS hokm hE hkb hgN hco hkk hK hP hD hS hl
    exfalso
    omega
  | succ fu ih =>
    intro ii x tb pb nd sp tr tA tw tt tl pr pA pw ptt pl nb nh nrw nmn nsx nR nM nV nkd ncs ntg nop nsg nct nr nA nw nt nz sb sh srw smn ssx sR sM sV skd scs stg sop ssg sct sr sA sw stt szz mm mfl ta ka da ya mpt mmd msx cT mt cK kt cD Vt cY Y ot cO gg LT LN LS H locs ls kc ks hfu hii hok hokp hoN hokN hoM hokS hokm hE hkb hgN hco hkk hK hP hD hS hl
    obtain ⟨sc0, esc0⟩ : ∃ y : Int, y = (xs (ii : Int).toNat).toInt := ⟨_, rfl⟩
    have hsc0 : -2147483648 ≤ sc0 ∧ sc0 < 2147483648 := by rw [esc0]; exact iI_rng _
    refine lv_iload hx hb dL_law_23 (lv_at hl 4 rfl) ?_
    refine lv_aload_n hx hb dL_law_25 rfl (lv_at hl 0 rfl) ?_
    refine li_slen hx hb hXs hbl hbA hS dL_law_26 ?_
    refine lv_bipush (v := iI 6) hx hb dL_law_27 (by decide +kernel) ?_
    refine li_isub hx hb dL_law_29 ?_
    refine li_icmp_gt (tgt := 844) hx hb (by omega) (by omega) dL_law_30 (by decide) (fun c1 => ?_) (fun c1 => ?_)
    · skip
      refine lv_iconst (v := 1) hx hb dL_law_844 (by decide) ?_
      refine va_forget (fun q hq => (hAe _).mp (hS.2.2 q hq)) ?_
      refine W.widen (k := 601024) (n := 7293034) (by omega) (by omega) ?_
      exact lw_ret hx hb hr hlocks dL_law_845
    · skip
      refine lv_aload_n hx hb dL_law_33 rfl (lv_at hl 0 rfl) ?_
      refine lv_iload hx hb dL_law_34 (lv_at hl 4 rfl) ?_
      refine li_sld hx hb hXs hbl hbA hS (z := ii) (v := sc0) (by omega) (by omega) esc0 dL_law_36 ?_
      refine lv_bipush (v := iI 15) hx hb dL_law_37 (by decide +kernel) ?_
      refine li_iand15 hx hb dL_law_39 ?_
      rcases (show sc0 % 16 = 0 ∨ sc0 % 16 = 1 ∨ sc0 % 16 = 2 ∨ sc0 % 16 = 3 ∨ sc0 % 16 = 4 ∨ sc0 % 16 = 5 ∨ sc0 % 16 = 6 ∨ sc0 % 16 = 7 ∨ sc0 % 16 = 8 ∨ sc0 % 16 = 9 ∨ 9 < sc0 % 16 by omega) with hv | hv | hv | hv | hv | hv | hv | hv | hv | hv | hv
      · skip
        refine li_tabIn (tgt := 96) hx hb (by omega) dL_law_40 0 hv (by decide) (by decide) rfl (by decide) ?_
        exact lw_feed l hl9 hL C0 hAe hX ih ii x tb pb nd sp tr tA tw tt tl pr pA pw ptt pl nb nh nrw nmn nsx nR nM nV nkd ncs ntg nop nsg nct nr nA nw nt nz sb sh srw smn ssx sR sM sV skd scs stg sop ssg sct sr sA sw stt szz mm mfl ta ka da ya mpt mmd msx cT mt cK kt cD Vt cY Y ot cO gg LT LN LS _ _ _ _ _ (by omega) (by omega) (hok) (hokp) (hoN) (hokN) (hoM) (hokS) (hokm) (hE) (hkb) (hgN) (hco) (hkk) (hK.sub [0, 1, 2, 3, 4, 5, 6, 7, 8, 9, 10] rfl) (hP.sub [0, 1, 2, 3, 4, 5, 6, 7, 8, 9, 10, 11, 12, 13, 14, 15, 16, 17, 18, 19, 20] rfl) (hD.sub [0, 1, 2, 3, 4, 5, 6, 7, 8, 9, 10, 11, 12, 13, 14, 15, 16, 17, 18, 19, 20] (by decide) rfl) hS (lv_sub hl [0, 1, 2, 3, 4] rfl)
      · skip
        refine li_tabIn (tgt := 200) hx hb (by omega) dL_law_40 1 hv (by decide) (by decide) rfl (by decide) ?_
        exact lw_end l hl9 hL C0 hAe hX ih ii x tb pb nd sp tr tA tw tt tl pr pA pw ptt pl nb nh nrw nmn nsx nR nM nV nkd ncs ntg nop nsg nct nr nA nw nt nz sb sh srw smn ssx sR sM sV skd scs stg sop ssg sct sr sA sw stt szz mm mfl ta ka da ya mpt mmd msx cT mt cK kt cD Vt cY Y ot cO gg LT LN LS _ _ _ _ _ (by omega) (by omega) (hok) (hokp) (hoN) (hokN) (hoM) (hokS) (hokm) (hE) (hkb) (hgN) (hco) (hkk) (hK.sub [0, 1, 2, 3, 4, 5, 6, 7, 8, 9, 10] rfl) (hP.sub [0, 1, 2, 3, 4, 5, 6, 7, 8, 9, 10, 11, 12, 13, 14, 15, 16, 17, 18, 19, 20] rfl) (hD.sub [0, 1, 2, 3, 4, 5, 6, 7, 8, 9, 10, 11, 12, 13, 14, 15, 16, 17, 18, 19, 20] (by decide) rfl) hS (lv_sub hl [0, 1, 2, 3, 4] rfl)
      · skip
        refine li_tabIn (tgt := 256) hx hb (by omega) dL_law_40 2 hv (by decide) (by decide) rfl (by decide) ?_
        exact lw_read l hl9 hL C0 hAe hX ih ii x tb pb nd sp tr tA tw tt tl pr pA pw ptt pl nb nh nrw nmn nsx nR nM nV nkd ncs ntg nop nsg nct nr nA nw nt nz sb sh srw smn ssx sR sM sV skd scs stg sop ssg sct sr sA sw stt szz mm mfl ta ka da ya mpt mmd msx cT mt cK kt cD Vt cY Y ot cO gg LT LN LS _ _ _ _ _ (by omega) (by omega) (hok) (hokp) (hoN) (hokN) (hoM) (hokS) (hokm) (hE) (hkb) (hgN) (hco) (hkk) (hK.sub [0, 1, 2, 3, 4, 5, 6, 7, 8, 9, 10] rfl) (hP.sub [0, 1, 2, 3, 4, 5, 6, 7, 8, 9, 10, 11, 12, 13, 14, 15, 16, 17, 18, 19, 20] rfl) (hD.sub [0, 1, 2, 3, 4, 5, 6, 7, 8, 9, 10, 11, 12, 13, 14, 15, 16, 17, 18, 19, 20] (by decide) rfl) hS (lv_sub hl [0, 1, 2, 3, 4] rfl)
      · skip
        refine li_tabIn (tgt := 328) hx hb (by omega) dL_law_40 3 hv (by decide) (by decide) rfl (by decide) ?_
        exact lw_node l hl9 hL C0 hAe hX ih ii x tb pb nd sp tr tA tw tt tl pr pA pw ptt pl nb nh nrw nmn nsx nR nM nV nkd ncs ntg nop nsg nct nr nA nw nt nz sb sh srw smn ssx sR sM sV skd scs stg sop ssg sct sr sA sw stt szz mm mfl ta ka da ya mpt mmd msx cT mt cK kt cD Vt cY Y ot cO gg LT LN LS _ _ _ _ _ (by omega) (by omega) (hok) (hokp) (hoN) (hokN) (hoM) (hokS) (hokm) (hE) (hkb) (hgN) (hco) (hkk) (hK.sub [0, 1, 2, 3, 4, 5, 6, 7, 8, 9, 10] rfl) (hP.sub [0, 1, 2, 3, 4, 5, 6, 7, 8, 9, 10, 11, 12, 13, 14, 15, 16, 17, 18, 19, 20] rfl) (hD.sub [0, 1, 2, 3, 4, 5, 6, 7, 8, 9, 10, 11, 12, 13, 14, 15, 16, 17, 18, 19, 20] (by decide) rfl) hS (lv_sub hl [0, 1, 2, 3, 4] rfl)
      · skip
        refine li_tabIn (tgt := 396) hx hb (by omega) dL_law_40 4 hv (by decide) (by decide) rfl (by decide) ?_
        exact lw_number l hl9 hL C0 hAe hX ih ii x tb pb nd sp tr tA tw tt tl pr pA pw ptt pl nb nh nrw nmn nsx nR nM nV nkd ncs ntg nop nsg nct nr nA nw nt nz sb sh srw smn ssx sR sM sV skd scs stg sop ssg sct sr sA sw stt szz mm mfl ta ka da ya mpt mmd msx cT mt cK kt cD Vt cY Y ot cO gg LT LN LS _ _ _ _ _ (by omega) (by omega) (hok) (hokp) (hoN) (hokN) (hoM) (hokS) (hokm) (hE) (hkb) (hgN) (hco) (hkk) (hK.sub [0, 1, 2, 3, 4, 5, 6, 7, 8, 9, 10] rfl) (hP.sub [0, 1, 2, 3, 4, 5, 6, 7, 8, 9, 10, 11, 12, 13, 14, 15, 16, 17, 18, 19, 20] rfl) (hD.sub [0, 1, 2, 3, 4, 5, 6, 7, 8, 9, 10, 11, 12, 13, 14, 15, 16, 17, 18, 19, 20] (by decide) rfl) hS (lv_sub hl [0, 1, 2, 3, 4] rfl)
      · skip
        refine li_tabIn (tgt := 451) hx hb (by omega) dL_law_40 5 hv (by decide) (by decide) rfl (by decide) ?_
        exact lw_wrap l hl9 hL C0 hAe hX ih ii x tb pb nd sp tr tA tw tt tl pr pA pw ptt pl nb nh nrw nmn nsx nR nM nV nkd ncs ntg nop nsg nct nr nA nw nt nz sb sh srw smn ssx sR sM sV skd scs stg sop ssg sct sr sA sw stt szz mm mfl ta ka da ya mpt mmd msx cT mt cK kt cD Vt cY Y ot cO gg LT LN LS _ _ _ _ _ (by omega) (by omega) (hok) (hokp) (hoN) (hokN) (hoM) (hokS) (hokm) (hE) (hkb) (hgN) (hco) (hkk) (hK.sub [0, 1, 2, 3, 4, 5, 6, 7, 8, 9, 10] rfl) (hP.sub [0, 1, 2, 3, 4, 5, 6, 7, 8, 9, 10, 11, 12, 13, 14, 15, 16, 17, 18, 19, 20] rfl) (hD.sub [0, 1, 2, 3, 4, 5, 6, 7, 8, 9, 10, 11, 12, 13, 14, 15, 16, 17, 18, 19, 20] (by decide) rfl) hS (lv_sub hl [0, 1, 2, 3, 4] rfl)
      · skip
        refine li_tabIn (tgt := 547) hx hb (by omega) dL_law_40 6 hv (by decide) (by decide) rfl (by decide) ?_
        exact lw_add l hl9 hL C0 hAe hX ih ii x tb pb nd sp tr tA tw tt tl pr pA pw ptt pl nb nh nrw nmn nsx nR nM nV nkd ncs ntg nop nsg nct nr nA nw nt nz sb sh srw smn ssx sR sM sV skd scs stg sop ssg sct sr sA sw stt szz mm mfl ta ka da ya mpt mmd msx cT mt cK kt cD Vt cY Y ot cO gg LT LN LS _ _ _ _ _ (by omega) (by omega) (hok) (hokp) (hoN) (hokN) (hoM) (hokS) (hokm) (hE) (hkb) (hgN) (hco) (hkk) (hK.sub [0, 1, 2, 3, 4, 5, 6, 7, 8, 9, 10] rfl) (hP.sub [0, 1, 2, 3, 4, 5, 6, 7, 8, 9, 10, 11, 12, 13, 14, 15, 16, 17, 18, 19, 20] rfl) (hD.sub [0, 1, 2, 3, 4, 5, 6, 7, 8, 9, 10, 11, 12, 13, 14, 15, 16, 17, 18, 19, 20] (by decide) rfl) hS (lv_sub hl [0, 1, 2, 3, 4] rfl)
      · skip
        refine li_tabIn (tgt := 659) hx hb (by omega) dL_law_40 7 hv (by decide) (by decide) rfl (by decide) ?_
        exact lw_compare l hl9 hL C0 hAe hX ih ii x tb pb nd sp tr tA tw tt tl pr pA pw ptt pl nb nh nrw nmn nsx nR nM nV nkd ncs ntg nop nsg nct nr nA nw nt nz sb sh srw smn ssx sR sM sV skd scs stg sop ssg sct sr sA sw stt szz mm mfl ta ka da ya mpt mmd msx cT mt cK kt cD Vt cY Y ot cO gg LT LN LS _ _ _ _ _ (by omega) (by omega) (hok) (hokp) (hoN) (hokN) (hoM) (hokS) (hokm) (hE) (hkb) (hgN) (hco) (hkk) (hK.sub [0, 1, 2, 3, 4, 5, 6, 7, 8, 9, 10] rfl) (hP.sub [0, 1, 2, 3, 4, 5, 6, 7, 8, 9, 10, 11, 12, 13, 14, 15, 16, 17, 18, 19, 20] rfl) (hD.sub [0, 1, 2, 3, 4, 5, 6, 7, 8, 9, 10, 11, 12, 13, 14, 15, 16, 17, 18, 19, 20] (by decide) rfl) hS (lv_sub hl [0, 1, 2, 3, 4] rfl)
      · skip
        refine li_tabIn (tgt := 727) hx hb (by omega) dL_law_40 8 hv (by decide) (by decide) rfl (by decide) ?_
        exact lw_count l hl9 hL C0 hAe hX ih ii x tb pb nd sp tr tA tw tt tl pr pA pw ptt pl nb nh nrw nmn nsx nR nM nV nkd ncs ntg nop nsg nct nr nA nw nt nz sb sh srw smn ssx sR sM sV skd scs stg sop ssg sct sr sA sw stt szz mm mfl ta ka da ya mpt mmd msx cT mt cK kt cD Vt cY Y ot cO gg LT LN LS _ _ _ _ _ (by omega) (by omega) (hok) (hokp) (hoN) (hokN) (hoM) (hokS) (hokm) (hE) (hkb) (hgN) (hco) (hkk) (hK.sub [0, 1, 2, 3, 4, 5, 6, 7, 8, 9, 10] rfl) (hP.sub [0, 1, 2, 3, 4, 5, 6, 7, 8, 9, 10, 11, 12, 13, 14, 15, 16, 17, 18, 19, 20] rfl) (hD.sub [0, 1, 2, 3, 4, 5, 6, 7, 8, 9, 10, 11, 12, 13, 14, 15, 16, 17, 18, 19, 20] (by decide) rfl) hS (lv_sub hl [0, 1, 2, 3, 4] rfl)
      · skip
        refine li_tabIn (tgt := 783) hx hb (by omega) dL_law_40 9 hv (by decide) (by decide) rfl (by decide) ?_
        exact lw_word l hl9 hL C0 hAe hX ih ii x tb pb nd sp tr tA tw tt tl pr pA pw ptt pl nb nh nrw nmn nsx nR nM nV nkd ncs ntg nop nsg nct nr nA nw nt nz sb sh srw smn ssx sR sM sV skd scs stg sop ssg sct sr sA sw stt szz mm mfl ta ka da ya mpt mmd msx cT mt cK kt cD Vt cY Y ot cO gg LT LN LS _ _ _ _ _ (by omega) (by omega) (hok) (hokp) (hoN) (hokN) (hoM) (hokS) (hokm) (hE) (hkb) (hgN) (hco) (hkk) (hK.sub [0, 1, 2, 3, 4, 5, 6, 7, 8, 9, 10] rfl) (hP.sub [0, 1, 2, 3, 4, 5, 6, 7, 8, 9, 10, 11, 12, 13, 14, 15, 16, 17, 18, 19, 20] rfl) (hD.sub [0, 1, 2, 3, 4, 5, 6, 7, 8, 9, 10, 11, 12, 13, 14, 15, 16, 17, 18, 19, 20] (by decide) rfl) hS (lv_sub hl [0, 1, 2, 3, 4] rfl)
      · skip
        refine li_tabOut (tgt := 838) hx hb (by omega) dL_law_40 (Or.inr hv) (by decide) ?_
        obtain ⟨z2, ez2⟩ : ∃ y : Int, y = ii + 6 := ⟨_, rfl⟩
        refine lv_iinc (v := iI z2) (lv' := [(4, .int (iI z2)), (0, .ref b), (1, .ref x), (2, .ref mm), (3, .ref ot)]) hx hb dL_law_838 hl (k := 4) rfl (by rw [ez2]; exact iI_add _ _) (by decide) rfl (fun ls hl => ?_)
        refine lv_goto (tgt := 23) hx hb dL_law_841 (by decide) ?_
        exact ih z2 x tb pb nd sp tr tA tw tt tl pr pA pw ptt pl nb nh nrw nmn nsx nR nM nV nkd ncs ntg nop nsg nct nr nA nw nt nz sb sh srw smn ssx sR sM sV skd scs stg sop ssg sct sr sA sw stt szz mm mfl ta ka da ya mpt mmd msx cT mt cK kt cD Vt cY Y ot cO gg LT LN LS _ _ _ _ _ (by omega) (by omega) (hok) (hokp) (hoN) (hokN) (hoM) (hokS) (hokm) (hE) (hkb) (hgN) (by omega) (by omega) (hK.sub [0, 1, 2, 3, 4, 5, 6, 7, 8, 9, 10] rfl) (hP.sub [0, 1, 2, 3, 4, 5, 6, 7, 8, 9, 10, 11, 12, 13, 14, 15, 16, 17, 18, 19, 20] rfl) (hD.sub [0, 1, 2, 3, 4, 5, 6, 7, 8, 9, 10, 11, 12, 13, 14, 15, 16, 17, 18, 19, 20] (by decide) rfl) hS (lv_sub hl [1, 2, 3, 4, 0] rfl)
