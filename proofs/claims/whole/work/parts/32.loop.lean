/-! THE CLAIM OUT OF ONE WALK OF THE LAW'S BODY. Your part is whole_start (and what it stands on); all else here is the same for every law, but numbers. -/
def R_law : String := "PageRescueLaw"
def lw_P (b : Addr) (xs : List Int32) (args : Array Value) (s : State) : Prop := args = #[.ref b] ∧ s.IntsAt b xs ∧ xs.length ≤ 2050 ∧ (Jvm.Cond.and given_1 narrow_1).before args s = true
def lw_Q (_ : Array Value) (s : State) (o : Outcome) (t : State) : Prop := o = .returned (some (.int 1)) ∧ Framed s o t [] 600000 7302250
def lw_Z (below : List Frame) (a : Array Value) (s : State) : State → Prop := fun t => ∃ o, t.status = .running ∧ Ended t below o ∧ lw_Q a s o t
/-- the law's own end, with 1 on the stack, nothing written that was there before, its room as the claim has it -/
theorem lw_ret {p : Program} {l : Launch} {e : Env} {s : State} {m : MethodId} {below : List Frame} {meth : Method} {c : Code} {b : Nat} (hx : p.tables.exec = Jvm.exec) (hb : c.code = code) (hr : meth.sig.returnType = ret) (hlocks : meth.locks = false) {pc : Nat} {H : Heap} {ls : Array Slot} (hdg : decode code pc = .ok (.ireturn, 1)) : W p l e room_1 s m #[Value.ref b] below meth c H [] 600000 7302250 (lw_Z below #[Value.ref b] s) (F0 m pc ls [.int 1]) := by
  intro T hT X
  obtain ⟨fs, hret, hrun, hended, hW, hframe⟩ := X.leave (v := some (.int 1)) (hlocks := hlocks) (fun h => by rw [hr] at h; cases h)
  have hmeth' : T.vm.method? m = some meth := X.method'
  refine ⟨T.setFrames fs, ?_, .returned (some (.int 1)), hrun, hended, rfl, ⟨_, rfl⟩, hW, hframe⟩
  jvm_step X.here [X.here.top, hx, hb, hdg, hmeth', hr, ret, narrow_b1]
  (try refine ⟨rfl, ?_⟩); (try refine ⟨rfl, ?_⟩)
  first | (intro acts; rw [hret _ acts rfl rfl rfl]) | rw [hret _ _ rfl rfl rfl]
  exact Steps.refl _
/-- what holds at the law's entry: the machine, the code, the tables' words (any of lw_tbl by 'hts w (by decide +kernel)'), the script of L ints xs at the cell b, what the Statement gives of the start (any of its parts by flat_of_before) -/
def lw_At (p : Program) (s : State) (m : MethodId) (meth : Method) (c : Code) (b L : Nat) (xs : Nat → Int32) : Prop :=
  p.tables.exec = Jvm.exec ∧ c.code = code ∧ meth.sig.returnType = ret ∧ c.maxLocals = 4 ∧ s.vm.findClass R_law = some m.cls ∧ (∀ w ∈ lw_tbl, w.before #[Value.ref b] s = true) ∧ va_X b L xs s s.heap ∧ b < s.heap.size ∧ meth.locks = false ∧ (Jvm.Cond.and given_1 narrow_1).before #[Value.ref b] s = true
theorem lawix {L i : Nat} (hL : L < 2 ^ 30) (hi : i < 2 ^ 30) (h : ¬ Int32.ofNat L - nI 4 < nI i) : i + 4 ≤ L := by
  have e9 : Int32.ofNat L = nI L := rfl
  rw [e9] at h
  by_cases q : 4 ≤ L
  · rw [pk_sub q] at h
    rcases Nat.lt_or_ge (L - 4) i with z | z
    · exact absurd ((nI_ltI (by omega) (by omega)).mpr z) h
    · omega
  · have e8 : (nI i).toInt = (i : Int) := nI_toInt (by omega)
    refine absurd (Int32.lt_iff_toInt_lt.mpr ?_) h
    rw [e8]
    rcases (show L = 0 ∨ L = 1 ∨ L = 2 ∨ L = 3 by omega) with rfl | rfl | rfl | rfl
    · have : (nI 0 - nI 4).toInt = -4 := by decide
      omega
    · have : (nI 1 - nI 4).toInt = -3 := by decide
      omega
    · have : (nI 2 - nI 4).toInt = -2 := by decide
      omega
    · have : (nI 3 - nI 4).toInt = -1 := by decide
      omega
set_option maxHeartbeats 4000000 in
set_option maxRecDepth 100000 in
theorem law_loop {p : Program} {l : Launch} {e : Env} {s : State} {m : MethodId} {below : List Frame} {meth : Method} {c : Code} {sb L : Nat} {xs : Nat → Int32} {dC : Nat → ClassId} {dI : Nat → Nat → Nat} {cT : Nat → ClassId} {A : Nat → Prop} {tE mir : Nat} {hc pL pT pD pB pS pR aK aC aT aP xK xR dA dB aL hm gK gV gH gM gI gR gT gF gS gE gC mS mQ : Nat} (C1 : zLaw p s m c sb L xs dC dI cT A tE mir) (hL : L ≤ 2050) (hr : meth.sig.returnType = ret) (hlocks : meth.locks = false) (hAs : ∀ q, A q → s.heap.size ≤ q) : ∀ (fu t : Nat) (so : Bool) (lC : Nat) (lP : Nat) (rv : Value) (oK : Nat) (fK : Nat) (ae : Nat) (ks : Nat → Int32) (cs : Nat → Int64) (tb : Nat → Int64) (pn : Nat → Nat) (tk : Nat → Nat) (tr : Nat → Int64) (dn : Nat → Nat) (dt : Nat → Bool) (scr : Nat → Int64) (rdf : Nat → Nat) (mL : Nat) (mo : Bool) (mch : Nat) (mA : Nat) (mP : Nat) (mB : Nat) (ml : Int32) (mz : Int32) (mk : Nat → Int32) (mv : Nat → Int32) (mh : Nat → Bool) (mm : Nat → Nat) (mi : Nat → Nat) (mr : Nat → Bool) (mt : Nat → Bool) (mf : Nat → Bool) (mst : Nat → Nat) (me : Nat → Nat) (cp : Nat → Int32) (cap : Nat) (ea : Nat → Option Nat) (ba : Nat → Nat) (ia : Nat → Nat) (bF : Nat → Bool) (bS : Nat → Nat) (bE : Nat → Nat) (bM : Nat → Nat) (bV : Nat → Nat) (im : Nat → Nat → Int32) (plA : va_W) (pl : va_W), 513 - t < fu → t ≤ 512 → zI cT tE mS mQ t so lC lP rv oK fK ae ks cs tb pn tk tr dn dt scr rdf mL mo mch mA mP mB ml mz mk mv mh mm mi mr mt mf mst me cp cap ea ba ia bF bS bE bM bV im plA pl → ∀ (H : Heap) (locs : List Loc), va_P (dC, dI) vwCl ([(hc, zoPr pL pT pD pB pS so pR), (pL, zoLg mS aK aC aT aP mL lC mA lP), (aK, zaI (cT 0) 801 ks), (aC, zaJ (cT 1) 801 cs), (aT, zaJ (cT 1) 32 tb), (aP, zaN (cT 0) 8 pn), (pT, zoTx xK xR mch mo), (xK, zaN (cT 0) 4 tk), (xR, zaJ (cT 1) 4 tr), (pD, zoDk dA dB), (dA, zaN (cT 0) 8 dn), (dB, zaZ (cT 2) 8 dt), (pB, zoBs mQ aL rv oK fK), (aL, zoAl ae mB mB), (pS, zaJ (cT 1) 32 scr), (pR, zaN (cT 0) 8 rdf), (hm, zoMd mS mQ gK gV gH mL mo gM mch mA mP gI gR gT gF gS gE gC mB ml mz), (gK, zaI (cT 0) 1100 mk), (gV, zaI (cT 0) 1100 mv), (gH, zaZ (cT 2) 1100 mh), (gM, zaN (cT 0) 4 mm), (gI, zaN (cT 0) 8 mi), (gR, zaZ (cT 2) 8 mr), (gT, zaZ (cT 2) 260 mt), (gF, zaZ (cT 2) 260 mf), (gS, zaN (cT 0) 260 mst), (gE, zaN (cT 0) 260 me), (gC, zaI (cT 0) 2080 cp)] ++ pl) H → va_D A ([(hc, zoPr pL pT pD pB pS so pR), (pL, zoLg mS aK aC aT aP mL lC mA lP), (aK, zaI (cT 0) 801 ks), (aC, zaJ (cT 1) 801 cs), (aT, zaJ (cT 1) 32 tb), (aP, zaN (cT 0) 8 pn), (pT, zoTx xK xR mch mo), (xK, zaN (cT 0) 4 tk), (xR, zaJ (cT 1) 4 tr), (pD, zoDk dA dB), (dA, zaN (cT 0) 8 dn), (dB, zaZ (cT 2) 8 dt), (pB, zoBs mQ aL rv oK fK), (aL, zoAl ae mB mB), (pS, zaJ (cT 1) 32 scr), (pR, zaN (cT 0) 8 rdf), (hm, zoMd mS mQ gK gV gH mL mo gM mch mA mP gI gR gT gF gS gE gC mB ml mz), (gK, zaI (cT 0) 1100 mk), (gV, zaI (cT 0) 1100 mv), (gH, zaZ (cT 2) 1100 mh), (gM, zaN (cT 0) 4 mm), (gI, zaN (cT 0) 8 mi), (gR, zaZ (cT 2) 8 mr), (gT, zaZ (cT 2) 260 mt), (gF, zaZ (cT 2) 260 mf), (gS, zaN (cT 0) 260 mst), (gE, zaN (cT 0) 260 me), (gC, zaI (cT 0) 2080 cp)] ++ pl) → va_S A s.heap H locs → ∀ ls : Array Slot, lv_has ls 4 [(0, .ref sb), (1, .ref hc), (2, .ref hm), (3, .int (nI (2 + 4 * t)))] → W p l e room_1 s m #[Value.ref sb] below meth c H locs (40 + 2 * t) (9000 + 400 * t) (lw_Z below #[Value.ref sb] s) (F0 m 38 ls []) := by
  intro fu
  induction fu with
  | zero => intro t so lC lP rv oK fK ae ks cs tb pn tk tr dn dt scr rdf mL mo mch mA mP mB ml mz mk mv mh mm mi mr mt mf mst me cp cap ea ba ia bF bS bE bM bV im plA pl hm9; exact absurd hm9 (Nat.not_lt_zero _)
  | succ fu ih =>
    intro t so lC lP rv oK fK ae ks cs tb pn tk tr dn dt scr rdf mL mo mch mA mP mB ml mz mk mv mh mm mi mr mt mf mst me cp cap ea ba ia bF bS bE bM bV im plA pl hm9 ht hV H locs hP hD hS ls hl
    obtain ⟨hx, hb, hml, hown, hts, hX, hbl, hbA, hA, hK, hE, hZ⟩ := id C1
    refine lv_iload_n hx hb d_Lw_law_38 rfl (lv_at hl 3 rfl) ?_
    refine lv_aload_n hx hb d_Lw_law_39 rfl (lv_at hl 0 rfl) ?_
    refine va_slen hx hb hX hbl hbA hS d_Lw_law_40 ?_
    refine lv_iconst (v := nI 4) hx hb d_Lw_law_41 (by decide) ?_
    refine lv_isub hx hb d_Lw_law_42 ?_
    refine lv_icmp_gt (tgt := 530) hx hb d_Lw_law_43 (by decide) (fun c_43 => ?_) (fun c_43 => ?_)
    · refine lv_iconst (v := 1) hx hb d_Lw_law_530 (by decide) ?_
      refine va_forget (fun q hq => hAs _ (hS.2.2 q hq)) ?_
      refine W.widen (k := 600000) (n := 7302250) (by omega) (by omega) ?_
      exact lw_ret hx hb hr hlocks d_Lw_law_531
    · have hi : 2 + 4 * t + 4 ≤ L := lawix (by omega) (by omega) c_43
      refine lv_aload_n hx hb d_Lw_law_46 rfl (lv_at hl 0 rfl) ?_
      refine lv_iload_n hx hb d_Lw_law_47 rfl (lv_at hl 3 rfl) ?_
      refine zs_ld hx hb hX hbl hbA hS (i := 2 + 4 * t) (v := xs (2 + 4 * t)) (by omega) (by omega) rfl d_Lw_law_48 ?_
      refine lv_bipush (v := nI 15) hx hb d_Lw_law_49 (by decide) ?_
      refine lv_iand hx hb d_Lw_law_51 ?_
      obtain ⟨j, hj, ej⟩ := pk_andE (xs (2 + 4 * t)) (m := nI 15) 4 (by decide)
      refine W.eq (congrArg (fun z => F0 m 52 ls [.int z]) ej) ?_
      have K : zKn p l e s m below meth c sb dC dI cT A (lw_Z below #[Value.ref sb] s) tE (2 + 4 * t) (t + 1) (40 + 2 * t + 2) (9000 + 400 * t + 400) hc pL pT pD pB pS pR aK aC aT aP xK xR dA dB aL hm gK gV gH gM gI gR gT gF gS gE gC mS mQ := by
        intro so' lC' lP' rv' oK' fK' ae' ks' cs' tb' pn' tk' tr' dn' dt' scr' rdf' mL' mo' mch' mA' mP' mB' ml' mz' mk' mv' mh' mm' mi' mr' mt' mf' mst' me' cp' cap' ea' ba' ia' bF' bS' bE' bM' bV' im' plA' pl' hV' H locs hP hD hS ls hl
        refine lv_iinc (v := nI (2 + 4 * t + 4)) (lv' := [(3, .int (nI (2 + 4 * t + 4))), (0, .ref sb), (1, .ref hc), (2, .ref hm)]) hx hb d_Lw_law_524 hl (k := 3) rfl (nI_add _ 4) (by decide) rfl (fun ls hl => ?_)
        refine lv_goto (tgt := 38) hx hb d_Lw_law_527 (by decide) ?_
        rw [show 2 + 4 * t + 4 = 2 + 4 * (t + 1) by omega] at hl
        refine W.widen (k := 40 + 2 * (t + 1)) (n := 9000 + 400 * (t + 1)) (by omega) (by omega) ?_
        exact ih (t + 1) so' lC' lP' rv' oK' fK' ae' ks' cs' tb' pn' tk' tr' dn' dt' scr' rdf' mL' mo' mch' mA' mP' mB' ml' mz' mk' mv' mh' mm' mi' mr' mt' mf' mst' me' cp' cap' ea' ba' ia' bF' bS' bE' bM' bV' im' plA' pl' (by omega) (by omega) hV' H locs hP hD hS ls (lv_sub hl [1, 2, 3, 0] rfl)
      rcases (show j = 0 ∨ j = 1 ∨ j = 2 ∨ j = 3 ∨ j = 4 ∨ j = 5 ∨ j = 6 ∨ j = 7 ∨ j = 8 ∨ j = 9 ∨ j = 10 ∨ j = 11 ∨ j = 12 ∨ j = 13 ∨ j = 14 ∨ j = 15 by omega) with rfl | rfl | rfl | rfl | rfl | rfl | rfl | rfl | rfl | rfl | rfl | rfl | rfl | rfl | rfl | rfl
      · refine lv_tableIn (tgt := 132) hx hb d_Lw_law_52 (by decide) (by decide) rfl (by decide) ?_
        exact lw_begin C1 (by omega) hi hL (by omega) (by omega) hV hP hD hS hl K
      · refine lv_tableIn (tgt := 145) hx hb d_Lw_law_52 (by decide) (by decide) rfl (by decide) ?_
        exact lw_put C1 (by omega) hi hL (by omega) (by omega) hV hP hD hS hl K
      · refine lv_tableIn (tgt := 204) hx hb d_Lw_law_52 (by decide) (by decide) rfl (by decide) ?_
        exact lw_commit C1 (by omega) hi hL (by omega) (by omega) hV hP hD hS hl K
      · refine lv_tableIn (tgt := 217) hx hb d_Lw_law_52 (by decide) (by decide) rfl (by decide) ?_
        exact lw_abort C1 (by omega) hi hL (by omega) (by omega) hV hP hD hS hl K
      · refine lv_tableIn (tgt := 230) hx hb d_Lw_law_52 (by decide) (by decide) rfl (by decide) ?_
        exact lw_get C1 (by omega) hi hL (by omega) (by omega) hV hP hD hS hl K
      · refine lv_tableIn (tgt := 254) hx hb d_Lw_law_52 (by decide) (by decide) rfl (by decide) ?_
        exact lw_write C1 (by omega) hi hL (by omega) (by omega) hV hP hD hS hl K
      · refine lv_tableIn (tgt := 277) hx hb d_Lw_law_52 (by decide) (by decide) rfl (by decide) ?_
        exact lw_archive C1 (by omega) hi hL (by omega) (by omega) hV hP hD hS hl K
      · refine lv_tableIn (tgt := 290) hx hb d_Lw_law_52 (by decide) (by decide) rfl (by decide) ?_
        exact lw_backup C1 (by omega) hi hL (by omega) (by omega) hV hP hD hS hl K
      · refine lv_tableIn (tgt := 329) hx hb d_Lw_law_52 (by decide) (by decide) rfl (by decide) ?_
        exact lw_step C1 (by omega) hi hL (by omega) (by omega) hV hP hD hS hl K
      · refine lv_tableIn (tgt := 352) hx hb d_Lw_law_52 (by decide) (by decide) rfl (by decide) ?_
        exact lw_crash C1 (by omega) hi hL (by omega) (by omega) hV hP hD hS hl K
      · refine lv_tableIn (tgt := 375) hx hb d_Lw_law_52 (by decide) (by decide) rfl (by decide) ?_
        exact lw_lose C1 (by omega) hi hL (by omega) (by omega) hV hP hD hS hl K
      · refine lv_tableIn (tgt := 388) hx hb d_Lw_law_52 (by decide) (by decide) rfl (by decide) ?_
        exact lw_restore C1 (by omega) hi hL (by omega) (by omega) hV hP hD hS hl K
      · refine lv_tableIn (tgt := 411) hx hb d_Lw_law_52 (by decide) (by decide) rfl (by decide) ?_
        exact lw_look C1 (by omega) hi hL (by omega) (by omega) hV hP hD hS hl K
      · refine lv_tableIn (tgt := 435) hx hb d_Lw_law_52 (by decide) (by decide) rfl (by decide) ?_
        exact lw_page C1 (by omega) hi hL (by omega) (by omega) hV hP hD hS hl K
      · refine lv_tableIn (tgt := 468) hx hb d_Lw_law_52 (by decide) (by decide) rfl (by decide) ?_
        exact lw_ofBackup C1 (by omega) hi hL (by omega) (by omega) hV hP hD hS hl K
      · refine lv_tableIn (tgt := 501) hx hb d_Lw_law_52 (by decide) (by decide) rfl (by decide) ?_
        exact lw_count C1 (by omega) hi hL (by omega) (by omega) hV hP hD hS hl K
