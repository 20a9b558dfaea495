/-! the reference's UNDO, in its own steps -/
def zvv (w : Int64) : Int32 := if w = 1000000000000 then 0 else w.toInt32
def zv (mk mv : Nat → Int32) (mh : Nat → Bool) (mm : Nat → Nat) (L ch : Nat) : Nat → (Nat → Int32) × (Nat → Int32) × (Nat → Bool)
  | 0 => (mk, mv, mh)
  | d + 1 => (va_up (zv mk mv mh mm L ch d).1 (L + d + 1) ((zv mk mv mh mm L ch d).1 (mm (ch - (d + 1)))),
      va_up (zv mk mv mh mm L ch d).2.1 (L + d + 1) (zvv (zaf (zv mk mv mh mm L ch d).1 (zv mk mv mh mm L ch d).2.1 (zv mk mv mh mm L ch d).2.2 ((zv mk mv mh mm L ch d).1 (mm (ch - (d + 1)))) (mm (ch - (d + 1)) - 1))),
      va_up (zv mk mv mh mm L ch d).2.2 (L + d + 1) (decide (¬ zaf (zv mk mv mh mm L ch d).1 (zv mk mv mh mm L ch d).2.1 (zv mk mv mh mm L ch d).2.2 ((zv mk mv mh mm L ch d).1 (mm (ch - (d + 1)))) (mm (ch - (d + 1)) - 1) = 1000000000000)))
def zvK (mk mv : Nat → Int32) (mh : Nat → Bool) (mm : Nat → Nat) (L ch : Nat) : Nat → Int32 := if ch = 0 then mk else va_up (zv mk mv mh mm L ch ch).1 (L + ch + 1) (-2)
def zvV (mk mv : Nat → Int32) (mh : Nat → Bool) (mm : Nat → Nat) (L ch : Nat) : Nat → Int32 := if ch = 0 then mv else va_up (zv mk mv mh mm L ch ch).2.1 (L + ch + 1) (nI 0)
def zvH (mk mv : Nat → Int32) (mh : Nat → Bool) (mm : Nat → Nat) (L ch : Nat) : Nat → Bool := if ch = 0 then mh else va_up (zv mk mv mh mm L ch ch).2.2 (L + ch + 1) false
theorem lgz {x y : Int64} : lg_cmp x y = 0 ↔ x = y := by
  unfold lg_cmp
  by_cases h1 : y < x
  · simp only [h1, if_true]
    refine ⟨fun h => absurd h (by decide), fun h => ?_⟩
    subst h
    exact absurd h1 Int64.lt_irrefl
  · by_cases h2 : x = y
    · subst h2; simp [h1]
    · simp only [h1, h2, if_false]
      exact ⟨fun h => absurd h (by decide), fun h => h.elim⟩
/-- kept backups whose number is below next are kept no more -/
def zdr (mt : Nat → Bool) (n : Nat) : Nat → Bool := fun b => if 1 ≤ b ∧ b < n then false else mt b
theorem zdr_1 (mt : Nat → Bool) : zdr mt 1 = mt := by
  funext b
  simp only [zdr]
  rw [if_neg (by omega)]
theorem zdr_s (mt : Nat → Bool) {i : Nat} (h : 1 ≤ i) : va_up (zdr mt i) i false = zdr mt (i + 1) := by
  funext b
  simp only [va_up, zdr]
  by_cases h1 : b = i
  · subst h1
    rw [if_pos rfl, if_pos (by omega)]
  · rw [if_neg h1]
    by_cases h2 : 1 ≤ b ∧ b < i
    · rw [if_pos h2, if_pos (by omega)]
    · rw [if_neg h2, if_neg (by omega)]
/-- images taken while pages a .. a + j are visited -/
def zvis (cp : Nat → Int32) (nu : Nat → Nat) (b p0 s0 : Nat) (fl : Bool) : Nat → Nat → Int32
  | 0 => cp
  | j + 1 => if fl = true ∨ s0 < nu (p0 + j) then va_up (zvis cp nu b p0 s0 fl j) (b * 8 + (p0 + j)) (nI (nu (p0 + j))) else zvis cp nu b p0 s0 fl j
def zclr (cp : Nat → Int32) (b : Nat) : Nat → Nat → Int32
  | 0 => cp
  | j + 1 => va_up (zclr cp b j) (b * 8 + j) (-1)
/-- sums of changes over the pages -/
def zsum (mk : Nat → Int32) (a : Nat → Nat) (u : Nat) : Nat → Nat
  | 0 => 0
  | p + 1 => zsum mk a u p + zcho mk p (a p) u
theorem zsum_le (mk : Nat → Int32) (a : Nat → Nat) (u : Nat) : ∀ p, zsum mk a u p ≤ p * u
  | 0 => by simp [zsum]
  | p + 1 => by
    have h1 := zsum_le mk a u p
    have h2 := zcho_le mk p (a p) u
    simp only [zsum]
    rw [Nat.add_mul]
    omega
/-- how many places of a kind say that there is an image -/
def zimk (mt : Nat → Bool) (cp : Nat → Int32) (pg : Nat) : Nat → Nat
  | 0 => 0
  | n + 1 => zimk mt cp pg n + (if mt (n + 1) = true ∧ ¬ cp ((n + 1) * 8 + pg) < 0 then 1 else 0)
theorem zimk_pos {mt : Nat → Bool} {cp : Nat → Int32} {pg i : Nat} (h : 0 < i) : zimk mt cp pg i = zimk mt cp pg (i - 1) + (if mt i = true ∧ ¬ cp (i * 8 + pg) < 0 then 1 else 0) := by
  cases i with
  | zero => omega
  | succ n => rfl
def zimb (cp : Nat → Int32) (b : Nat) : Nat → Nat
  | 0 => 0
  | p + 1 => zimb cp b p + (if ¬ cp (b * 8 + p) < 0 then 1 else 0)
/-- the last kept backup whose END is below m, 0 if none -/
def zlst (mt : Nat → Bool) (me : Nat → Nat) (m : Nat) : Nat → Nat
  | 0 => 0
  | n + 1 => if mt (n + 1) = true ∧ me (n + 1) < m then n + 1 else zlst mt me m n
theorem zlst_pos {mt : Nat → Bool} {me : Nat → Nat} {m i : Nat} (h : 0 < i) : zlst mt me m i = if mt i = true ∧ me i < m then i else zlst mt me m (i - 1) := by
  cases i with
  | zero => omega
  | succ n => rfl
theorem zlst_le (mt : Nat → Bool) (me : Nat → Nat) (m : Nat) : ∀ n, zlst mt me m n ≤ n
  | 0 => Nat.le_refl _
  | n + 1 => by
    have := zlst_le mt me m n
    simp only [zlst]
    split <;> omega
/-- the number of the page's latest image in the backups up to b, 0 if none -/
def zimg (cp : Nat → Int32) (pg : Nat) : Nat → Nat
  | 0 => 0
  | n + 1 => if ¬ cp ((n + 1) * 8 + pg) < 0 then kN (cp ((n + 1) * 8 + pg)) else zimg cp pg n
theorem zimg_pos {cp : Nat → Int32} {pg i : Nat} (h : 0 < i) : zimg cp pg i = if ¬ cp (i * 8 + pg) < 0 then kN (cp (i * 8 + pg)) else zimg cp pg (i - 1) := by
  cases i with
  | zero => omega
  | succ n => rfl
theorem okc_nn {x : Int32} (h : okc x) (h2 : ¬ x < 0) : x = nI (kN x) ∧ kN x ≤ 1000 := by
  rcases h with h | h
  · subst h; exact absurd (by decide) h2
  · exact h
/-- a number, clamped -/
def zcl (x : Int32) (lo hi : Nat) : Nat := if x < nI lo then lo else if nI hi < x then hi else kN x
theorem zcl_in {x : Int32} {lo hi : Nat} (hlo : lo ≤ hi) (hh : hi < 2 ^ 30) (h1 : ¬ x < nI lo) (h2 : ¬ nI hi < x) : x = nI (kN x) ∧ lo ≤ kN x ∧ kN x ≤ hi := by
  have h0 : ¬ x < 0 := fun q => h1 (by
    rw [Int32.lt_iff_toInt_lt] at q ⊢
    rw [nI_toInt (by omega)]
    have : (0 : Int32).toInt = 0 := by decide
    omega)
  obtain ⟨j, hj, rfl⟩ := nI_of h0
  have e : kN (nI j) = j := nI_clamp hj
  rw [e]
  refine ⟨rfl, ?_, ?_⟩
  · rcases Nat.lt_or_ge j lo with q | q
    · exact absurd ((nI_ltI hj (by omega)).mpr q) h1
    · exact q
  · rcases Nat.lt_or_ge hi j with q | q
    · exact absurd ((nI_ltI (by omega) hj).mpr q) h2
    · exact q
theorem zcl_bd (x : Int32) {lo hi : Nat} (hlo : lo ≤ hi) (hh : hi < 2 ^ 30) : lo ≤ zcl x lo hi ∧ zcl x lo hi ≤ hi := by
  simp only [zcl]
  by_cases h1 : x < nI lo
  · rw [if_pos h1]; omega
  · by_cases h2 : nI hi < x
    · rw [if_neg h1, if_pos h2]; omega
    · rw [if_neg h1, if_neg h2]
      exact (zcl_in hlo hh h1 h2).2
set_option maxHeartbeats 4000000 in
set_option maxRecDepth 100000 in
theorem c_Md_undo (l : Launch) (dC : Nat → ClassId) (dI : Nat → Nat → Nat) (cT : Nat → ClassId) (sz : Nat) (h0 : Nat) (mS : Nat) (mQ : Nat) (gK : Nat) (gV : Nat) (gH : Nat) (mL : Nat) (mo : Bool) (gM : Nat) (mch : Nat) (mA : Nat) (mP : Nat) (gI : Nat) (gR : Nat) (gT : Nat) (gF : Nat) (gS : Nat) (gE : Nat) (gC : Nat) (mB : Nat) (ml : Int32) (mz : Int32) (mk : Nat → Int32) (mv : Nat → Int32) (mh : Nat → Bool) (mm : Nat → Nat) (hch : mch ≤ 4) (hLu : mL + mch + 1 ≤ 1000) (hmm : ∀ j, j < mch → 1 ≤ mm j ∧ mm j ≤ mL) : Met l y_Md_undo w_Md_undo ({ frames := 1, cells := 0, slots := 0, locals := 23 } : Room) (zPre (dC, dI) vwCl (zT cT) [.ref h0] ([(h0, zoMd mS mQ gK gV gH mL mo gM mch mA mP gI gR gT gF gS gE gC mB ml mz), (gK, zaI (cT 0) 1100 mk), (gV, zaI (cT 0) 1100 mv), (gH, zaZ (cT 2) 1100 mh), (gM, zaN (cT 0) 4 mm)]) sz) (zQ (dC, dI) vwCl (S := Unit) (fun zu => True) (fun zu => none) (fun zu => [(h0, zoMd mS mQ gK gV gH (zuL mL mch) false gM 0 mA mP gI gR gT gF gS gE gC mB ml mz), (gK, zaI (cT 0) 1100 (zvK mk mv mh mm mL mch)), (gV, zaI (cT 0) 1100 (zvV mk mv mh mm mL mch)), (gH, zaZ (cT 2) 1100 (zvH mk mv mh mm mL mch)), (gM, zaN (cT 0) 4 mm)]) (va_A ([(h0, zoMd mS mQ gK gV gH mL mo gM mch mA mP gI gR gT gF gS gE gC mB ml mz), (gK, zaI (cT 0) 1100 mk), (gV, zaI (cT 0) 1100 mv), (gH, zaZ (cT 2) 1100 mh), (gM, zaN (cT 0) 4 mm)]) sz)) 0 0 (va_A ([(h0, zoMd mS mQ gK gV gH mL mo gM mch mA mP gI gR gT gF gS gE gC mB ml mz), (gK, zaI (cT 0) 1100 mk), (gV, zaI (cT 0) 1100 mv), (gH, zaZ (cT 2) 1100 mh), (gM, zaN (cT 0) 4 mm)]) sz) := by
  refine Met.ofW (cc := b_Md_undo) (maxL := 5) (ret := none) (by decide) rfl ?_
  intro p e s m args below meth c s₁ B hml hv
  obtain ⟨rfl, hsz, hP, hK, hD0, hE⟩ := hv
  have hx := B.exec
  have hb := B.bytes
  have hr := B.returns
  have hts := fun w h => atoms_spec (ws := w_Md_undo) B.pre w (List.mem_cons_of_mem _ h)
  have hown : s.vm.findClass R_Md = some m.cls := findClass_of_methodNamed B.named
  have hlocks := B.notSynchronized
  subst hsz
  have hD := hD0.self (sz := s.heap.size)
  generalize hAe : va_A ([(h0, zoMd mS mQ gK gV gH mL mo gM mch mA mP gI gR gT gF gS gE gC mB ml mz), (gK, zaI (cT 0) 1100 mk), (gV, zaI (cT 0) 1100 mv), (gH, zaZ (cT 2) 1100 mh), (gM, zaN (cT 0) 4 mm)]) s.heap.size = A at hD ⊢
  have hA : ∀ q : Nat, s.heap.size ≤ q → A q := fun q h => by rw [← hAe]; exact Or.inr h
  have hS : va_S A s.heap s.heap [] := va_S.rf
  have hl := lv_entry ([.ref h0]) (n := 5) (Nat.le_of_ble_eq_true rfl)
  rw [lg_entry_eq]
  generalize (lg_sl ([.ref h0]) ++ List.replicate (5 - (lg_sl ([.ref h0])).length) Slot.unset).toArray = ls at hl ⊢
  have hl : lv_has ls 5 [(0, .ref h0)] := hl
  refine lv_aload_n hx hb d_Md_undo_0 rfl (lv_at hl 0 rfl) ?_
  refine va_get (D := (dC, dI)) (ci := 6) (v := .int (nI mch)) (C := R_Md) (T := F_Md) (N := 21) hx hb hts i_Md hown hK hP 0 rfl rfl 8 (by decide) (hts _ wd_571) (fun _ h9 => h9) rfl d_Md_undo_1 ?_
  refine lv_iconst (v := (nI 1)) hx hb d_Md_undo_4 (by decide) ?_
  refine lv_isub hx hb d_Md_undo_5 ?_
  refine lv_istore_n (lv' := [(1, .int ((nI mch) - (nI 1))), (0, .ref h0)]) hx hb d_Md_undo_6 rfl hl (by decide) rfl (fun ls hl => ?_)
  have loop_7 : ∀ (fu : Nat) (d : Nat), mch - d < fu → (d ≤ mch) → ∀ (H : Heap) (locs : List Loc), va_P (dC, dI) vwCl ([(h0, zoMd mS mQ gK gV gH (mL + d) mo gM mch mA mP gI gR gT gF gS gE gC mB ml mz), (gK, zaI (cT 0) 1100 ((zv mk mv mh mm mL mch d).1)), (gV, zaI (cT 0) 1100 ((zv mk mv mh mm mL mch d).2.1)), (gH, zaZ (cT 2) 1100 ((zv mk mv mh mm mL mch d).2.2)), (gM, zaN (cT 0) 4 mm)]) H → va_D A ([(h0, zoMd mS mQ gK gV gH (mL + d) mo gM mch mA mP gI gR gT gF gS gE gC mB ml mz), (gK, zaI (cT 0) 1100 ((zv mk mv mh mm mL mch d).1)), (gV, zaI (cT 0) 1100 ((zv mk mv mh mm mL mch d).2.1)), (gH, zaZ (cT 2) 1100 ((zv mk mv mh mm mL mch d).2.2)), (gM, zaN (cT 0) 4 mm)]) → va_S A s.heap H locs → ∀ (ls : Array Slot), lv_has ls 5 [(0, .ref h0), (1, .int (nI (mch - d) - 1))] → W p l e (headSpec w_Md_undo ({ frames := 1, cells := 0, slots := 0, locals := 23 } : Room)).room s m ([.ref h0] : List Value).toArray below meth c H locs 0 0 (MQ below (zQ (dC, dI) vwCl (S := Unit) (fun zu => True) (fun zu => none) (fun zu => [(h0, zoMd mS mQ gK gV gH (zuL mL mch) false gM 0 mA mP gI gR gT gF gS gE gC mB ml mz), (gK, zaI (cT 0) 1100 (zvK mk mv mh mm mL mch)), (gV, zaI (cT 0) 1100 (zvV mk mv mh mm mL mch)), (gH, zaZ (cT 2) 1100 (zvH mk mv mh mm mL mch)), (gM, zaN (cT 0) 4 mm)]) A) ([.ref h0] : List Value).toArray s 0 0 A) (F0 m 7 ls []) := by
    intro fu
    induction fu with
    | zero => intro _ hm; exact absurd hm (Nat.not_lt_zero _)
    | succ fu ih_7 =>
      intro d hm_7 h1 H locs hP hD hS ls hl
      rcases Nat.lt_or_ge d mch with hlt | hge
      · have e7 : (nI (mch - d) - 1 : Int32) = nI (mch - (d + 1)) := by rw [show mch - d = (mch - (d + 1)) + 1 by omega, nI_pred]
        have hl : lv_has ls 5 [(0, .ref h0), (1, .int (nI (mch - (d + 1))))] := by rw [← e7]; exact hl
        have hm1 := hmm (mch - (d + 1)) (by omega)
        refine lv_iload_n hx hb d_Md_undo_7 rfl (lv_at hl 1 rfl) ?_
        refine zn_if_lt (tgt := 85) hx hb (a := mch - (d + 1)) (by omega) d_Md_undo_8 (by decide) (fun c => c.elim) (fun _ => ?_)
        refine lv_aload_n hx hb d_Md_undo_11 rfl (lv_at hl 0 rfl) ?_
        refine lv_aload_n hx hb d_Md_undo_12 rfl (lv_at hl 0 rfl) ?_
        refine va_get (D := (dC, dI)) (ci := 6) (v := .ref gM) (C := R_Md) (T := F_Md) (N := 21) hx hb hts i_Md hown hK hP 0 rfl rfl 7 (by decide) (hts _ wd_570) (fun _ h9 => h9) rfl d_Md_undo_13 ?_
        refine lv_iload_n hx hb d_Md_undo_16 rfl (lv_at hl 1 rfl) ?_
        refine zn_iald hx hb hK hP 4 0 rfl rfl (i := mch - (d + 1)) (by omega) (by omega) d_Md_undo_17 ?_
        refine lv_iconst (v := (nI 1)) hx hb d_Md_undo_18 (by decide) ?_
        refine zn_isub hx hb (by omega) d_Md_undo_19 ?_
        refine lv_aload_n hx hb d_Md_undo_20 rfl (lv_at hl 0 rfl) ?_
        refine va_get (D := (dC, dI)) (ci := 6) (v := .ref gK) (C := R_Md) (T := F_Md) (N := 21) hx hb hts i_Md hown hK hP 0 rfl rfl 2 (by decide) (hts _ wd_565) (fun _ h9 => h9) rfl d_Md_undo_21 ?_
        refine lv_aload_n hx hb d_Md_undo_24 rfl (lv_at hl 0 rfl) ?_
        refine va_get (D := (dC, dI)) (ci := 6) (v := .ref gM) (C := R_Md) (T := F_Md) (N := 21) hx hb hts i_Md hown hK hP 0 rfl rfl 7 (by decide) (hts _ wd_570) (fun _ h9 => h9) rfl d_Md_undo_25 ?_
        refine lv_iload_n hx hb d_Md_undo_28 rfl (lv_at hl 1 rfl) ?_
        refine zn_iald hx hb hK hP 4 0 rfl rfl (i := mch - (d + 1)) (by omega) (by omega) d_Md_undo_29 ?_
        refine zn_iald hx hb hK hP 1 0 rfl rfl (i := mm (mch - (d + 1))) (by omega) (by omega) d_Md_undo_30 ?_
        refine zw_R (r := .long (zaf ((zv mk mv mh mm mL mch d).1) ((zv mk mv mh mm mL mch d).2.1) ((zv mk mv mh mm mL mch d).2.2) (((zv mk mv mh mm mL mch d).1) (mm (mch - (d + 1)))) ((mm (mch - (d + 1))) - 1))) (va_runV (As := [.int (nI ((mm (mch - (d + 1))) - 1)), .int (((zv mk mv mh mm mL mch d).1) (mm (mch - (d + 1))))]) (rest := []) ⟨hx, hb, hml, hown, hts⟩ (c_Md_after l dC dI cT h0 mS mQ gK gV gH (mL + d) mo gM mch mA mP gI gR gT gF gS gE gC mB ml mz ((mm (mch - (d + 1))) - 1) (((zv mk mv mh mm mL mch d).1) (mm (mch - (d + 1)))) ((zv mk mv mh mm mL mch d).1) ((zv mk mv mh mm mL mch d).2.1) ((zv mk mv mh mm mL mch d).2.2) (by first | omega | assumption)) (cwV 2 hts (zgV wd_662 wd_664 wp_12 wd_11 wd_665) rfl rfl rfl (by decide +kernel) ⟨Nat.le_of_ble_eq_true rfl, Nat.le_of_ble_eq_true rfl⟩) ⟨zPreR_blind, va_recv hK hP (ci := 6) (q0 := 0) rfl rfl, zp_R hK hE (zSub (X := [(h0, zoMd mS mQ gK gV gH (mL + d) mo gM mch mA mP gI gR gT gF gS gE gC mB ml mz), (gK, zaI (cT 0) 1100 ((zv mk mv mh mm mL mch d).1)), (gV, zaI (cT 0) 1100 ((zv mk mv mh mm mL mch d).2.1)), (gH, zaZ (cT 2) 1100 ((zv mk mv mh mm mL mch d).2.2)), (gM, zaN (cT 0) 4 mm)]) (pl := []) hP [0, 1, 2, 3] rfl)⟩ rfl rfl hl.1 rfl (lv_room (Nat.le_of_ble_eq_true rfl)) d_Md_undo_31 ⟨Nat.le_of_ble_eq_true rfl, Nat.le_of_ble_eq_true rfl⟩) ?_
        refine lv_topl (fun was ewas => ?_)
        refine lv_lstore_n (lv' := [(2, .long was), (0, .ref h0), (1, .int (nI (mch - (d + 1))))]) hx hb d_Md_undo_34 rfl hl (by decide) rfl (fun ls hl => ?_)
        refine lv_aload_n hx hb d_Md_undo_35 rfl (lv_at hl 1 rfl) ?_
        refine lv_aload_n hx hb d_Md_undo_36 rfl (lv_at hl 1 rfl) ?_
        refine va_get (D := (dC, dI)) (ci := 6) (v := .ref gK) (C := R_Md) (T := F_Md) (N := 21) hx hb hts i_Md hown hK hP 0 rfl rfl 2 (by decide) (hts _ wd_565) (fun _ h9 => h9) rfl d_Md_undo_37 ?_
        refine lv_aload_n hx hb d_Md_undo_40 rfl (lv_at hl 1 rfl) ?_
        refine va_get (D := (dC, dI)) (ci := 6) (v := .ref gM) (C := R_Md) (T := F_Md) (N := 21) hx hb hts i_Md hown hK hP 0 rfl rfl 7 (by decide) (hts _ wd_570) (fun _ h9 => h9) rfl d_Md_undo_41 ?_
        refine lv_iload_n hx hb d_Md_undo_44 rfl (lv_at hl 2 rfl) ?_
        refine zn_iald hx hb hK hP 4 0 rfl rfl (i := mch - (d + 1)) (by omega) (by omega) d_Md_undo_45 ?_
        refine zn_iald hx hb hK hP 1 0 rfl rfl (i := mm (mch - (d + 1))) (by omega) (by omega) d_Md_undo_46 ?_
        refine lv_lload_n hx hb d_Md_undo_47 rfl (lv_at hl 0 rfl) ?_
        refine lv_ldc2 (v := 1000000000000) hx hb hown (hts _ wd_666) d_Md_undo_48 ?_
        refine W.lcmp hx hb d_Md_undo_51 ?_
        refine lv_if_ne (tgt := 59) hx hb d_Md_undo_52 (by decide) (fun c_52 => ?_) (fun c_52 => ?_)
        · refine lv_lload_n hx hb d_Md_undo_59 rfl (lv_at hl 0 rfl) ?_
          refine lv_l2i hx hb d_Md_undo_60 rfl ?_
          refine W.eq (congrArg (fun z => F0 m 61 ls [.int z, .int (((zv mk mv mh mm mL mch d).1) (mm (mch - (d + 1)))), .ref h0]) (show was.toInt32 = zvv was from by rw [zvv, if_neg (fun q => c_52 (lgz.mpr q))])) ?_
          refine lv_lload_n hx hb d_Md_undo_61 rfl (lv_at hl 0 rfl) ?_
          refine lv_ldc2 (v := 1000000000000) hx hb hown (hts _ wd_666) d_Md_undo_62 ?_
          refine W.lcmp hx hb d_Md_undo_65 ?_
          refine lv_if_eq (tgt := 73) hx hb d_Md_undo_66 (by decide) (fun c_66 => ?_) (fun c_66 => ?_)
          · exact absurd c_66 c_52
          · refine lv_iconst (v := (nI 1)) hx hb d_Md_undo_69 (by decide) ?_
            refine lv_goto (tgt := 74) hx hb d_Md_undo_70 (by decide) ?_
            refine W.eq (congrArg (fun z => F0 m 74 ls [.int z, .int (zvv was), .int (((zv mk mv mh mm mL mch d).1) (mm (mch - (d + 1)))), .ref h0]) (show (nI 1) = zb (decide (¬ was = 1000000000000)) from by rw [decide_eq_true (show ¬ was = 1000000000000 from fun q => c_66 (lgz.mpr q))]; rfl)) ?_
            refine zw_Q (X := [(h0, zoMd mS mQ gK gV gH (mL + d) mo gM mch mA mP gI gR gT gF gS gE gC mB ml mz), (gK, zaI (cT 0) 1100 ((zv mk mv mh mm mL mch d).1)), (gV, zaI (cT 0) 1100 ((zv mk mv mh mm mL mch d).2.1)), (gH, zaZ (cT 2) 1100 ((zv mk mv mh mm mL mch d).2.2)), (gM, zaN (cT 0) 4 mm)]) (pl := []) (va_runV (As := [.int (((zv mk mv mh mm mL mch d).1) (mm (mch - (d + 1)))), .int (zvv was), .int (zb (decide (¬ was = 1000000000000)))]) (rest := []) ⟨hx, hb, hml, hown, hts⟩ (c_Md_log l dC dI cT H.size h0 mS mQ gK gV gH (mL + d) mo gM mch mA mP gI gR gT gF gS gE gC mB ml mz (((zv mk mv mh mm mL mch d).1) (mm (mch - (d + 1)))) (zvv was) (decide (¬ was = 1000000000000)) ((zv mk mv mh mm mL mch d).1) ((zv mk mv mh mm mL mch d).2.1) ((zv mk mv mh mm mL mch d).2.2) (by first | omega | assumption)) (cwV 3 hts (zgV wd_642 wd_644 wp_9 wd_11 wd_645) rfl rfl rfl (by decide +kernel) ⟨Nat.le_of_ble_eq_true rfl, Nat.le_of_ble_eq_true rfl⟩) ⟨zPre_blind, va_recv hK hP (ci := 6) (q0 := 0) rfl rfl, zp_Q (X := [(h0, zoMd mS mQ gK gV gH (mL + d) mo gM mch mA mP gI gR gT gF gS gE gC mB ml mz), (gK, zaI (cT 0) 1100 ((zv mk mv mh mm mL mch d).1)), (gV, zaI (cT 0) 1100 ((zv mk mv mh mm mL mch d).2.1)), (gH, zaZ (cT 2) 1100 ((zv mk mv mh mm mL mch d).2.2)), (gM, zaN (cT 0) 4 mm)]) (pl := []) hK hE hP hD [0, 1, 2, 3] (by decide) rfl⟩ rfl rfl hl.1 rfl (lv_room (Nat.le_of_ble_eq_true rfl)) d_Md_undo_74 ⟨Nat.le_of_ble_eq_true rfl, Nat.le_of_ble_eq_true rfl⟩) hP hD hS hA [0, 1, 2, 3] [4] rfl (wr := [(gM, zaN (cT 0) 4 mm)]) rfl (by decide) (by decide) (fun zu => [.int (nI ((mL + d) + 1))]) (fun _ => rfl) (fun zu H locs hφ hP hD hS => ?_)
            have hP : va_P (dC, dI) vwCl ([(gM, zaN (cT 0) 4 mm), (h0, zoMd mS mQ gK gV gH ((mL + d) + 1) mo gM mch mA mP gI gR gT gF gS gE gC mB ml mz), (gK, zaI (cT 0) 1100 (va_up ((zv mk mv mh mm mL mch d).1) ((mL + d) + 1) (((zv mk mv mh mm mL mch d).1) (mm (mch - (d + 1)))))), (gV, zaI (cT 0) 1100 (va_up ((zv mk mv mh mm mL mch d).2.1) ((mL + d) + 1) (zvv was))), (gH, zaZ (cT 2) 1100 (va_up ((zv mk mv mh mm mL mch d).2.2) ((mL + d) + 1) (decide (¬ was = 1000000000000))))]) H := hP
            have hD : va_D A ([(gM, zaN (cT 0) 4 mm), (h0, zoMd mS mQ gK gV gH ((mL + d) + 1) mo gM mch mA mP gI gR gT gF gS gE gC mB ml mz), (gK, zaI (cT 0) 1100 (va_up ((zv mk mv mh mm mL mch d).1) ((mL + d) + 1) (((zv mk mv mh mm mL mch d).1) (mm (mch - (d + 1)))))), (gV, zaI (cT 0) 1100 (va_up ((zv mk mv mh mm mL mch d).2.1) ((mL + d) + 1) (zvv was))), (gH, zaZ (cT 2) 1100 (va_up ((zv mk mv mh mm mL mch d).2.2) ((mL + d) + 1) (decide (¬ was = 1000000000000))))]) := hD
            refine lv_istore (lv' := [(4, .int (nI ((mL + d) + 1))), (2, .long was), (0, .ref h0), (1, .int (nI (mch - (d + 1))))]) hx hb d_Md_undo_77 hl (by decide) rfl (fun ls hl => ?_)
            refine lv_iinc (v := (nI (mch - (d + 1)) - 1)) (lv' := [(1, .int (nI (mch - (d + 1)) - 1)), (4, .int (nI ((mL + d) + 1))), (2, .long was), (0, .ref h0)]) hx hb d_Md_undo_79 hl (k := 3) rfl (zm1 _) (by decide) rfl (fun ls hl => ?_)
            refine lv_goto (tgt := 7) hx hb d_Md_undo_82 (by decide) ?_
            subst ewas
            exact ih_7 (d + 1) (by omega) (by first | omega | assumption) H locs (hP.sub [1, 2, 3, 4, 0] rfl) (hD.sub [1, 2, 3, 4, 0] (by decide) rfl) hS ls (lv_sub hl [3, 0] rfl)
        · refine lv_iconst (v := (nI 0)) hx hb d_Md_undo_55 (by decide) ?_
          refine lv_goto (tgt := 61) hx hb d_Md_undo_56 (by decide) ?_
          refine W.eq (congrArg (fun z => F0 m 61 ls [.int z, .int (((zv mk mv mh mm mL mch d).1) (mm (mch - (d + 1)))), .ref h0]) (show (nI 0) = zvv was from by rw [zvv, if_pos (lgz.mp c_52)]; rfl)) ?_
          refine lv_lload_n hx hb d_Md_undo_61 rfl (lv_at hl 0 rfl) ?_
          refine lv_ldc2 (v := 1000000000000) hx hb hown (hts _ wd_666) d_Md_undo_62 ?_
          refine W.lcmp hx hb d_Md_undo_65 ?_
          refine lv_if_eq (tgt := 73) hx hb d_Md_undo_66 (by decide) (fun c_66 => ?_) (fun c_66 => ?_)
          · refine lv_iconst (v := (nI 0)) hx hb d_Md_undo_73 (by decide) ?_
            refine W.eq (congrArg (fun z => F0 m 74 ls [.int z, .int (zvv was), .int (((zv mk mv mh mm mL mch d).1) (mm (mch - (d + 1)))), .ref h0]) (show (nI 0) = zb (decide (¬ was = 1000000000000)) from by rw [decide_eq_false (show ¬ ¬ was = 1000000000000 from fun q => q (lgz.mp c_66))]; rfl)) ?_
            refine zw_Q (X := [(h0, zoMd mS mQ gK gV gH (mL + d) mo gM mch mA mP gI gR gT gF gS gE gC mB ml mz), (gK, zaI (cT 0) 1100 ((zv mk mv mh mm mL mch d).1)), (gV, zaI (cT 0) 1100 ((zv mk mv mh mm mL mch d).2.1)), (gH, zaZ (cT 2) 1100 ((zv mk mv mh mm mL mch d).2.2)), (gM, zaN (cT 0) 4 mm)]) (pl := []) (va_runV (As := [.int (((zv mk mv mh mm mL mch d).1) (mm (mch - (d + 1)))), .int (zvv was), .int (zb (decide (¬ was = 1000000000000)))]) (rest := []) ⟨hx, hb, hml, hown, hts⟩ (c_Md_log l dC dI cT H.size h0 mS mQ gK gV gH (mL + d) mo gM mch mA mP gI gR gT gF gS gE gC mB ml mz (((zv mk mv mh mm mL mch d).1) (mm (mch - (d + 1)))) (zvv was) (decide (¬ was = 1000000000000)) ((zv mk mv mh mm mL mch d).1) ((zv mk mv mh mm mL mch d).2.1) ((zv mk mv mh mm mL mch d).2.2) (by first | omega | assumption)) (cwV 3 hts (zgV wd_642 wd_644 wp_9 wd_11 wd_645) rfl rfl rfl (by decide +kernel) ⟨Nat.le_of_ble_eq_true rfl, Nat.le_of_ble_eq_true rfl⟩) ⟨zPre_blind, va_recv hK hP (ci := 6) (q0 := 0) rfl rfl, zp_Q (X := [(h0, zoMd mS mQ gK gV gH (mL + d) mo gM mch mA mP gI gR gT gF gS gE gC mB ml mz), (gK, zaI (cT 0) 1100 ((zv mk mv mh mm mL mch d).1)), (gV, zaI (cT 0) 1100 ((zv mk mv mh mm mL mch d).2.1)), (gH, zaZ (cT 2) 1100 ((zv mk mv mh mm mL mch d).2.2)), (gM, zaN (cT 0) 4 mm)]) (pl := []) hK hE hP hD [0, 1, 2, 3] (by decide) rfl⟩ rfl rfl hl.1 rfl (lv_room (Nat.le_of_ble_eq_true rfl)) d_Md_undo_74 ⟨Nat.le_of_ble_eq_true rfl, Nat.le_of_ble_eq_true rfl⟩) hP hD hS hA [0, 1, 2, 3] [4] rfl (wr := [(gM, zaN (cT 0) 4 mm)]) rfl (by decide) (by decide) (fun zu => [.int (nI ((mL + d) + 1))]) (fun _ => rfl) (fun zu H locs hφ hP hD hS => ?_)
            have hP : va_P (dC, dI) vwCl ([(gM, zaN (cT 0) 4 mm), (h0, zoMd mS mQ gK gV gH ((mL + d) + 1) mo gM mch mA mP gI gR gT gF gS gE gC mB ml mz), (gK, zaI (cT 0) 1100 (va_up ((zv mk mv mh mm mL mch d).1) ((mL + d) + 1) (((zv mk mv mh mm mL mch d).1) (mm (mch - (d + 1)))))), (gV, zaI (cT 0) 1100 (va_up ((zv mk mv mh mm mL mch d).2.1) ((mL + d) + 1) (zvv was))), (gH, zaZ (cT 2) 1100 (va_up ((zv mk mv mh mm mL mch d).2.2) ((mL + d) + 1) (decide (¬ was = 1000000000000))))]) H := hP
            have hD : va_D A ([(gM, zaN (cT 0) 4 mm), (h0, zoMd mS mQ gK gV gH ((mL + d) + 1) mo gM mch mA mP gI gR gT gF gS gE gC mB ml mz), (gK, zaI (cT 0) 1100 (va_up ((zv mk mv mh mm mL mch d).1) ((mL + d) + 1) (((zv mk mv mh mm mL mch d).1) (mm (mch - (d + 1)))))), (gV, zaI (cT 0) 1100 (va_up ((zv mk mv mh mm mL mch d).2.1) ((mL + d) + 1) (zvv was))), (gH, zaZ (cT 2) 1100 (va_up ((zv mk mv mh mm mL mch d).2.2) ((mL + d) + 1) (decide (¬ was = 1000000000000))))]) := hD
            refine lv_istore (lv' := [(4, .int (nI ((mL + d) + 1))), (2, .long was), (0, .ref h0), (1, .int (nI (mch - (d + 1))))]) hx hb d_Md_undo_77 hl (by decide) rfl (fun ls hl => ?_)
            refine lv_iinc (v := (nI (mch - (d + 1)) - 1)) (lv' := [(1, .int (nI (mch - (d + 1)) - 1)), (4, .int (nI ((mL + d) + 1))), (2, .long was), (0, .ref h0)]) hx hb d_Md_undo_79 hl (k := 3) rfl (zm1 _) (by decide) rfl (fun ls hl => ?_)
            refine lv_goto (tgt := 7) hx hb d_Md_undo_82 (by decide) ?_
            subst ewas
            exact ih_7 (d + 1) (by omega) (by first | omega | assumption) H locs (hP.sub [1, 2, 3, 4, 0] rfl) (hD.sub [1, 2, 3, 4, 0] (by decide) rfl) hS ls (lv_sub hl [3, 0] rfl)
          · exact absurd c_52 c_66
      · have e7 : (nI (mch - d) - 1 : Int32) = (-1) := by rw [show mch - d = 0 by omega]; decide
        have hl : lv_has ls 5 [(0, .ref h0), (1, .int (-1))] := by rw [← e7]; exact hl
        have hd : d = mch := by omega
        refine lv_iload_n hx hb d_Md_undo_7 rfl (lv_at hl 1 rfl) ?_
        refine lv_if_lt (tgt := 85) hx hb d_Md_undo_8 (by decide) (fun c_8 => ?_) (fun c_8 => absurd c_8 (fun q => q (by decide)))
        refine lv_aload_n hx hb d_Md_undo_85 rfl (lv_at hl 0 rfl) ?_
        refine va_get (D := (dC, dI)) (ci := 6) (v := .int (nI mch)) (C := R_Md) (T := F_Md) (N := 21) hx hb hts i_Md hown hK hP 0 rfl rfl 8 (by decide) (hts _ wd_571) (fun _ h9 => h9) rfl d_Md_undo_86 ?_
        refine zn_if_le (tgt := 101) hx hb (a := mch) (by omega) d_Md_undo_89 (by decide) (fun c_89 => ?_) (fun c_89 => ?_)
        · refine lv_aload_n hx hb d_Md_undo_101 rfl (lv_at hl 0 rfl) ?_
          refine lv_iconst (v := (nI 0)) hx hb d_Md_undo_102 (by decide) ?_
          refine va_put (D := (dC, dI)) (ci := 6) (v := .int (nI 0)) (ty := .int) (C := R_Md) (T := F_Md) (N := 21) hx hb hts i_Md t_Md t_Md_ok n_Md hown hK hP hD hS 0 rfl rfl 8 (by decide) (hts _ wd_571) (fun _ h9 => h9) rfl (by decide +kernel) rfl rfl (Nat.le_of_ble_eq_true rfl) d_Md_undo_103 (fun H locs hP hD hS => ?_)
          have hP : va_P (dC, dI) vwCl ([(h0, zoMd mS mQ gK gV gH (mL + d) mo gM 0 mA mP gI gR gT gF gS gE gC mB ml mz), (gK, zaI (cT 0) 1100 ((zv mk mv mh mm mL mch d).1)), (gV, zaI (cT 0) 1100 ((zv mk mv mh mm mL mch d).2.1)), (gH, zaZ (cT 2) 1100 ((zv mk mv mh mm mL mch d).2.2)), (gM, zaN (cT 0) 4 mm)]) H := hP
          have hD : va_D A ([(h0, zoMd mS mQ gK gV gH (mL + d) mo gM 0 mA mP gI gR gT gF gS gE gC mB ml mz), (gK, zaI (cT 0) 1100 ((zv mk mv mh mm mL mch d).1)), (gV, zaI (cT 0) 1100 ((zv mk mv mh mm mL mch d).2.1)), (gH, zaZ (cT 2) 1100 ((zv mk mv mh mm mL mch d).2.2)), (gM, zaN (cT 0) 4 mm)]) := hD
          refine lv_aload_n hx hb d_Md_undo_106 rfl (lv_at hl 0 rfl) ?_
          refine lv_iconst (v := (nI 0)) hx hb d_Md_undo_107 (by decide) ?_
          refine W.eq (g2 := F0 m 108 ls [.int (zb false), .ref h0]) rfl ?_
          refine va_put (D := (dC, dI)) (ci := 6) (v := .int (zb false)) (ty := .boolean) (C := R_Md) (T := F_Md) (N := 21) hx hb hts i_Md t_Md t_Md_ok n_Md hown hK hP hD hS 0 rfl rfl 6 (by decide) (hts _ wd_569) (fun _ h9 => h9) rfl (by decide +kernel) (zb_narrow _) (zb_fits _) (Nat.le_of_ble_eq_true rfl) d_Md_undo_108 (fun H locs hP hD hS => ?_)
          have hP : va_P (dC, dI) vwCl ([(h0, zoMd mS mQ gK gV gH (mL + d) false gM 0 mA mP gI gR gT gF gS gE gC mB ml mz), (gK, zaI (cT 0) 1100 ((zv mk mv mh mm mL mch d).1)), (gV, zaI (cT 0) 1100 ((zv mk mv mh mm mL mch d).2.1)), (gH, zaZ (cT 2) 1100 ((zv mk mv mh mm mL mch d).2.2)), (gM, zaN (cT 0) 4 mm)]) H := hP
          have hD : va_D A ([(h0, zoMd mS mQ gK gV gH (mL + d) false gM 0 mA mP gI gR gT gF gS gE gC mB ml mz), (gK, zaI (cT 0) 1100 ((zv mk mv mh mm mL mch d).1)), (gV, zaI (cT 0) 1100 ((zv mk mv mh mm mL mch d).2.1)), (gH, zaZ (cT 2) 1100 ((zv mk mv mh mm mL mch d).2.2)), (gM, zaN (cT 0) 4 mm)]) := hD
          have hP9 := hP.sub (ws' := [(h0, zoMd mS mQ gK gV gH (mL + d) false gM 0 mA mP gI gR gT gF gS gE gC mB ml mz), (gK, zaI (cT 0) 1100 ((zv mk mv mh mm mL mch d).1)), (gV, zaI (cT 0) 1100 ((zv mk mv mh mm mL mch d).2.1)), (gH, zaZ (cT 2) 1100 ((zv mk mv mh mm mL mch d).2.2)), (gM, zaN (cT 0) 4 mm)]) [0, 1, 2, 3, 4] rfl
          have hD9 := hD.sub (ws' := [(h0, zoMd mS mQ gK gV gH (mL + d) false gM 0 mA mP gI gR gT gF gS gE gC mB ml mz), (gK, zaI (cT 0) 1100 ((zv mk mv mh mm mL mch d).1)), (gV, zaI (cT 0) 1100 ((zv mk mv mh mm mL mch d).2.1)), (gH, zaZ (cT 2) 1100 ((zv mk mv mh mm mL mch d).2.2)), (gM, zaN (cT 0) 4 mm)]) [0, 1, 2, 3, 4] (by decide) rfl
          rw [hd] at hP9 hD9
          have hP9 : va_P (dC, dI) vwCl ([(h0, zoMd mS mQ gK gV gH (zuL mL mch) false gM 0 mA mP gI gR gT gF gS gE gC mB ml mz), (gK, zaI (cT 0) 1100 (zvK mk mv mh mm mL mch)), (gV, zaI (cT 0) 1100 (zvV mk mv mh mm mL mch)), (gH, zaZ (cT 2) 1100 (zvH mk mv mh mm mL mch)), (gM, zaN (cT 0) 4 mm)]) H := by rw [show zuL mL mch = mL + mch by simp [zuL, c_89], show zvK mk mv mh mm mL mch = (zv mk mv mh mm mL mch mch).1 by simp [zvK, c_89, zv], show zvV mk mv mh mm mL mch = (zv mk mv mh mm mL mch mch).2.1 by simp [zvV, c_89, zv], show zvH mk mv mh mm mL mch = (zv mk mv mh mm mL mch mch).2.2 by simp [zvH, c_89, zv]]; exact hP9
          have hD9 : va_D A ([(h0, zoMd mS mQ gK gV gH (zuL mL mch) false gM 0 mA mP gI gR gT gF gS gE gC mB ml mz), (gK, zaI (cT 0) 1100 (zvK mk mv mh mm mL mch)), (gV, zaI (cT 0) 1100 (zvV mk mv mh mm mL mch)), (gH, zaZ (cT 2) 1100 (zvH mk mv mh mm mL mch)), (gM, zaN (cT 0) 4 mm)]) := by rw [show zuL mL mch = mL + mch by simp [zuL, c_89], show zvK mk mv mh mm mL mch = (zv mk mv mh mm mL mch mch).1 by simp [zvK, c_89, zv], show zvV mk mv mh mm mL mch = (zv mk mv mh mm mL mch mch).2.1 by simp [zvV, c_89, zv], show zvH mk mv mh mm mL mch = (zv mk mv mh mm mL mch mch).2.2 by simp [zvH, c_89, zv]]; exact hD9
          exact W.vret hx hb hr (fun t ht hW => ⟨⟨(), trivial, rfl, by rw [ht]; exact hP9, hD9⟩, hS.F ht⟩) hS.2.2 d_Md_undo_111
        · refine lv_aload_n hx hb d_Md_undo_92 rfl (lv_at hl 0 rfl) ?_
          refine lv_bipush (v := (-2)) hx hb d_Md_undo_93 (by decide) ?_
          refine lv_iconst (v := (nI 0)) hx hb d_Md_undo_95 (by decide) ?_
          refine lv_iconst (v := (nI 0)) hx hb d_Md_undo_96 (by decide) ?_
          refine W.eq (g2 := F0 m 97 ls [.int (zb false), .int (nI 0), .int (-2), .ref h0]) rfl ?_
          refine zw_Q (X := [(h0, zoMd mS mQ gK gV gH (mL + d) mo gM mch mA mP gI gR gT gF gS gE gC mB ml mz), (gK, zaI (cT 0) 1100 ((zv mk mv mh mm mL mch d).1)), (gV, zaI (cT 0) 1100 ((zv mk mv mh mm mL mch d).2.1)), (gH, zaZ (cT 2) 1100 ((zv mk mv mh mm mL mch d).2.2)), (gM, zaN (cT 0) 4 mm)]) (pl := []) (va_runV (As := [.int (-2), .int (nI 0), .int (zb false)]) (rest := []) ⟨hx, hb, hml, hown, hts⟩ (c_Md_log l dC dI cT H.size h0 mS mQ gK gV gH (mL + d) mo gM mch mA mP gI gR gT gF gS gE gC mB ml mz (-2) (nI 0) false ((zv mk mv mh mm mL mch d).1) ((zv mk mv mh mm mL mch d).2.1) ((zv mk mv mh mm mL mch d).2.2) (by first | omega | assumption)) (cwV 3 hts (zgV wd_642 wd_644 wp_9 wd_11 wd_645) rfl rfl rfl (by decide +kernel) ⟨Nat.le_of_ble_eq_true rfl, Nat.le_of_ble_eq_true rfl⟩) ⟨zPre_blind, va_recv hK hP (ci := 6) (q0 := 0) rfl rfl, zp_Q (X := [(h0, zoMd mS mQ gK gV gH (mL + d) mo gM mch mA mP gI gR gT gF gS gE gC mB ml mz), (gK, zaI (cT 0) 1100 ((zv mk mv mh mm mL mch d).1)), (gV, zaI (cT 0) 1100 ((zv mk mv mh mm mL mch d).2.1)), (gH, zaZ (cT 2) 1100 ((zv mk mv mh mm mL mch d).2.2)), (gM, zaN (cT 0) 4 mm)]) (pl := []) hK hE hP hD [0, 1, 2, 3] (by decide) rfl⟩ rfl rfl hl.1 rfl (lv_room (Nat.le_of_ble_eq_true rfl)) d_Md_undo_97 ⟨Nat.le_of_ble_eq_true rfl, Nat.le_of_ble_eq_true rfl⟩) hP hD hS hA [0, 1, 2, 3] [4] rfl (wr := [(gM, zaN (cT 0) 4 mm)]) rfl (by decide) (by decide) (fun zu => [.int (nI ((mL + d) + 1))]) (fun _ => rfl) (fun zu H locs hφ hP hD hS => ?_)
          have hP : va_P (dC, dI) vwCl ([(gM, zaN (cT 0) 4 mm), (h0, zoMd mS mQ gK gV gH ((mL + d) + 1) mo gM mch mA mP gI gR gT gF gS gE gC mB ml mz), (gK, zaI (cT 0) 1100 (va_up ((zv mk mv mh mm mL mch d).1) ((mL + d) + 1) (-2))), (gV, zaI (cT 0) 1100 (va_up ((zv mk mv mh mm mL mch d).2.1) ((mL + d) + 1) (nI 0))), (gH, zaZ (cT 2) 1100 (va_up ((zv mk mv mh mm mL mch d).2.2) ((mL + d) + 1) false))]) H := hP
          have hD : va_D A ([(gM, zaN (cT 0) 4 mm), (h0, zoMd mS mQ gK gV gH ((mL + d) + 1) mo gM mch mA mP gI gR gT gF gS gE gC mB ml mz), (gK, zaI (cT 0) 1100 (va_up ((zv mk mv mh mm mL mch d).1) ((mL + d) + 1) (-2))), (gV, zaI (cT 0) 1100 (va_up ((zv mk mv mh mm mL mch d).2.1) ((mL + d) + 1) (nI 0))), (gH, zaZ (cT 2) 1100 (va_up ((zv mk mv mh mm mL mch d).2.2) ((mL + d) + 1) false))]) := hD
          refine lv_istore_n (lv' := [(1, .int (nI ((mL + d) + 1))), (0, .ref h0)]) hx hb d_Md_undo_100 rfl hl (by decide) rfl (fun ls hl => ?_)
          refine lv_aload_n hx hb d_Md_undo_101 rfl (lv_at hl 1 rfl) ?_
          refine lv_iconst (v := (nI 0)) hx hb d_Md_undo_102 (by decide) ?_
          refine va_put (D := (dC, dI)) (ci := 6) (v := .int (nI 0)) (ty := .int) (C := R_Md) (T := F_Md) (N := 21) hx hb hts i_Md t_Md t_Md_ok n_Md hown hK hP hD hS 1 rfl rfl 8 (by decide) (hts _ wd_571) (fun _ h9 => h9) rfl (by decide +kernel) rfl rfl (Nat.le_of_ble_eq_true rfl) d_Md_undo_103 (fun H locs hP hD hS => ?_)
          have hP : va_P (dC, dI) vwCl ([(gM, zaN (cT 0) 4 mm), (h0, zoMd mS mQ gK gV gH ((mL + d) + 1) mo gM 0 mA mP gI gR gT gF gS gE gC mB ml mz), (gK, zaI (cT 0) 1100 (va_up ((zv mk mv mh mm mL mch d).1) ((mL + d) + 1) (-2))), (gV, zaI (cT 0) 1100 (va_up ((zv mk mv mh mm mL mch d).2.1) ((mL + d) + 1) (nI 0))), (gH, zaZ (cT 2) 1100 (va_up ((zv mk mv mh mm mL mch d).2.2) ((mL + d) + 1) false))]) H := hP
          have hD : va_D A ([(gM, zaN (cT 0) 4 mm), (h0, zoMd mS mQ gK gV gH ((mL + d) + 1) mo gM 0 mA mP gI gR gT gF gS gE gC mB ml mz), (gK, zaI (cT 0) 1100 (va_up ((zv mk mv mh mm mL mch d).1) ((mL + d) + 1) (-2))), (gV, zaI (cT 0) 1100 (va_up ((zv mk mv mh mm mL mch d).2.1) ((mL + d) + 1) (nI 0))), (gH, zaZ (cT 2) 1100 (va_up ((zv mk mv mh mm mL mch d).2.2) ((mL + d) + 1) false))]) := hD
          refine lv_aload_n hx hb d_Md_undo_106 rfl (lv_at hl 1 rfl) ?_
          refine lv_iconst (v := (nI 0)) hx hb d_Md_undo_107 (by decide) ?_
          refine W.eq (g2 := F0 m 108 ls [.int (zb false), .ref h0]) rfl ?_
          refine va_put (D := (dC, dI)) (ci := 6) (v := .int (zb false)) (ty := .boolean) (C := R_Md) (T := F_Md) (N := 21) hx hb hts i_Md t_Md t_Md_ok n_Md hown hK hP hD hS 1 rfl rfl 6 (by decide) (hts _ wd_569) (fun _ h9 => h9) rfl (by decide +kernel) (zb_narrow _) (zb_fits _) (Nat.le_of_ble_eq_true rfl) d_Md_undo_108 (fun H locs hP hD hS => ?_)
          have hP : va_P (dC, dI) vwCl ([(gM, zaN (cT 0) 4 mm), (h0, zoMd mS mQ gK gV gH ((mL + d) + 1) false gM 0 mA mP gI gR gT gF gS gE gC mB ml mz), (gK, zaI (cT 0) 1100 (va_up ((zv mk mv mh mm mL mch d).1) ((mL + d) + 1) (-2))), (gV, zaI (cT 0) 1100 (va_up ((zv mk mv mh mm mL mch d).2.1) ((mL + d) + 1) (nI 0))), (gH, zaZ (cT 2) 1100 (va_up ((zv mk mv mh mm mL mch d).2.2) ((mL + d) + 1) false))]) H := hP
          have hD : va_D A ([(gM, zaN (cT 0) 4 mm), (h0, zoMd mS mQ gK gV gH ((mL + d) + 1) false gM 0 mA mP gI gR gT gF gS gE gC mB ml mz), (gK, zaI (cT 0) 1100 (va_up ((zv mk mv mh mm mL mch d).1) ((mL + d) + 1) (-2))), (gV, zaI (cT 0) 1100 (va_up ((zv mk mv mh mm mL mch d).2.1) ((mL + d) + 1) (nI 0))), (gH, zaZ (cT 2) 1100 (va_up ((zv mk mv mh mm mL mch d).2.2) ((mL + d) + 1) false))]) := hD
          have hP9 := hP.sub (ws' := [(h0, zoMd mS mQ gK gV gH ((mL + d) + 1) false gM 0 mA mP gI gR gT gF gS gE gC mB ml mz), (gK, zaI (cT 0) 1100 (va_up ((zv mk mv mh mm mL mch d).1) ((mL + d) + 1) (-2))), (gV, zaI (cT 0) 1100 (va_up ((zv mk mv mh mm mL mch d).2.1) ((mL + d) + 1) (nI 0))), (gH, zaZ (cT 2) 1100 (va_up ((zv mk mv mh mm mL mch d).2.2) ((mL + d) + 1) false)), (gM, zaN (cT 0) 4 mm)]) [1, 2, 3, 4, 0] rfl
          have hD9 := hD.sub (ws' := [(h0, zoMd mS mQ gK gV gH ((mL + d) + 1) false gM 0 mA mP gI gR gT gF gS gE gC mB ml mz), (gK, zaI (cT 0) 1100 (va_up ((zv mk mv mh mm mL mch d).1) ((mL + d) + 1) (-2))), (gV, zaI (cT 0) 1100 (va_up ((zv mk mv mh mm mL mch d).2.1) ((mL + d) + 1) (nI 0))), (gH, zaZ (cT 2) 1100 (va_up ((zv mk mv mh mm mL mch d).2.2) ((mL + d) + 1) false)), (gM, zaN (cT 0) 4 mm)]) [1, 2, 3, 4, 0] (by decide) rfl
          rw [hd] at hP9 hD9
          have hP9 : va_P (dC, dI) vwCl ([(h0, zoMd mS mQ gK gV gH (zuL mL mch) false gM 0 mA mP gI gR gT gF gS gE gC mB ml mz), (gK, zaI (cT 0) 1100 (zvK mk mv mh mm mL mch)), (gV, zaI (cT 0) 1100 (zvV mk mv mh mm mL mch)), (gH, zaZ (cT 2) 1100 (zvH mk mv mh mm mL mch)), (gM, zaN (cT 0) 4 mm)]) H := by simp only [zuL, zvK, zvV, zvH, if_neg (show ¬ mch = 0 by omega)]; exact hP9
          have hD9 : va_D A ([(h0, zoMd mS mQ gK gV gH (zuL mL mch) false gM 0 mA mP gI gR gT gF gS gE gC mB ml mz), (gK, zaI (cT 0) 1100 (zvK mk mv mh mm mL mch)), (gV, zaI (cT 0) 1100 (zvV mk mv mh mm mL mch)), (gH, zaZ (cT 2) 1100 (zvH mk mv mh mm mL mch)), (gM, zaN (cT 0) 4 mm)]) := by simp only [zuL, zvK, zvV, zvH, if_neg (show ¬ mch = 0 by omega)]; exact hD9
          exact W.vret hx hb hr (fun t ht hW => ⟨⟨(), trivial, rfl, by rw [ht]; exact hP9, hD9⟩, hS.F ht⟩) hS.2.2 d_Md_undo_111
  exact loop_7 (mch - 0 + 1) 0 (by omega) (by first | omega | assumption) s.heap [] (hP.sub [0, 1, 2, 3, 4] rfl) (hD.sub [0, 1, 2, 3, 4] (by decide) rfl) hS ls (lv_sub hl [1, 0] rfl)
set_option maxHeartbeats 4000000 in
set_option maxRecDepth 100000 in
theorem c_Md_begin_ref (l : Launch) (dC : Nat → ClassId) (dI : Nat → Nat → Nat) (cT : Nat → ClassId) (sz : Nat) (h0 : Nat) (mS : Nat) (mQ : Nat) (gK : Nat) (gV : Nat) (gH : Nat) (mL : Nat) (mo : Bool) (gM : Nat) (mch : Nat) (mA : Nat) (mP : Nat) (gI : Nat) (gR : Nat) (gT : Nat) (gF : Nat) (gS : Nat) (gE : Nat) (gC : Nat) (mB : Nat) (ml : Int32) (mz : Int32) (ho : mo = true) : Met l y_Md_begin w_Md_begin ({ frames := 0, cells := 0, slots := 0, locals := 0 } : Room) (zPre (dC, dI) vwCl (zT cT) [.ref h0] ([(h0, zoMd mS mQ gK gV gH mL mo gM mch mA mP gI gR gT gF gS gE gC mB ml mz)]) sz) (zQ (dC, dI) vwCl (S := Unit) (fun zu => True) (fun zu => some (.int (-1))) (fun zu => [(h0, zoMd mS mQ gK gV gH mL mo gM mch mA mP gI gR gT gF gS gE gC mB ml mz)]) (va_A ([(h0, zoMd mS mQ gK gV gH mL mo gM mch mA mP gI gR gT gF gS gE gC mB ml mz)]) sz)) 0 0 (va_A ([(h0, zoMd mS mQ gK gV gH mL mo gM mch mA mP gI gR gT gF gS gE gC mB ml mz)]) sz) := by
  refine Met.ofW (cc := b_Md_begin) (maxL := 1) (ret := (some .int)) (by decide) rfl ?_
  intro p e s m args below meth c s₁ B hml hv
  obtain ⟨rfl, hsz, hP, hK, hD0, hE⟩ := hv
  have hx := B.exec
  have hb := B.bytes
  have hr := B.returns
  have hts := fun w h => atoms_spec (ws := w_Md_begin) B.pre w (List.mem_cons_of_mem _ h)
  have hown : s.vm.findClass R_Md = some m.cls := findClass_of_methodNamed B.named
  have hlocks := B.notSynchronized
  subst hsz
  have hD := hD0.self (sz := s.heap.size)
  generalize hAe : va_A ([(h0, zoMd mS mQ gK gV gH mL mo gM mch mA mP gI gR gT gF gS gE gC mB ml mz)]) s.heap.size = A at hD ⊢
  have hA : ∀ q : Nat, s.heap.size ≤ q → A q := fun q h => by rw [← hAe]; exact Or.inr h
  have hS : va_S A s.heap s.heap [] := va_S.rf
  have hl := lv_entry ([.ref h0]) (n := 1) (Nat.le_of_ble_eq_true rfl)
  rw [lg_entry_eq]
  generalize (lg_sl ([.ref h0]) ++ List.replicate (1 - (lg_sl ([.ref h0])).length) Slot.unset).toArray = ls at hl ⊢
  have hl : lv_has ls 1 [(0, .ref h0)] := hl
  refine lv_aload_n hx hb d_Md_begin_0 rfl (lv_at hl 0 rfl) ?_
  refine va_get (D := (dC, dI)) (ci := 6) (v := .int (zb mo)) (C := R_Md) (T := F_Md) (N := 21) hx hb hts i_Md hown hK hP 0 rfl rfl 6 (by decide) (hts _ wd_569) (fun _ h9 => h9) rfl d_Md_begin_1 ?_
  refine zb_if_eq (tgt := 9) hx hb d_Md_begin_4 (by decide) (fun c_4 => absurd c_4 (by rw [ho]; decide)) (fun c_4 => ?_)
  refine lv_iconst (v := (-1)) hx hb d_Md_begin_7 (by decide) ?_
  have hP9 := hP.sub (ws' := [(h0, zoMd mS mQ gK gV gH mL mo gM mch mA mP gI gR gT gF gS gE gC mB ml mz)]) [0] rfl
  have hD9 := hD.sub (ws' := [(h0, zoMd mS mQ gK gV gH mL mo gM mch mA mP gI gR gT gF gS gE gC mB ml mz)]) [0] (by decide) rfl
  exact W.iret hx hb hr (fun t ht hW => ⟨⟨(), trivial, rfl, by rw [ht]; exact hP9, hD9⟩, hS.F ht⟩) hS.2.2 d_Md_begin_8
set_option maxHeartbeats 4000000 in
set_option maxRecDepth 100000 in
theorem c_Md_begin_ok (l : Launch) (dC : Nat → ClassId) (dI : Nat → Nat → Nat) (cT : Nat → ClassId) (sz : Nat) (h0 : Nat) (mS : Nat) (mQ : Nat) (gK : Nat) (gV : Nat) (gH : Nat) (mL : Nat) (mo : Bool) (gM : Nat) (mch : Nat) (mA : Nat) (mP : Nat) (gI : Nat) (gR : Nat) (gT : Nat) (gF : Nat) (gS : Nat) (gE : Nat) (gC : Nat) (mB : Nat) (ml : Int32) (mz : Int32) (ho : mo = false) : Met l y_Md_begin w_Md_begin ({ frames := 0, cells := 0, slots := 0, locals := 0 } : Room) (zPre (dC, dI) vwCl (zT cT) [.ref h0] ([(h0, zoMd mS mQ gK gV gH mL mo gM mch mA mP gI gR gT gF gS gE gC mB ml mz)]) sz) (zQ (dC, dI) vwCl (S := Unit) (fun zu => True) (fun zu => some (.int (nI 0))) (fun zu => [(h0, zoMd mS mQ gK gV gH mL true gM 0 mA mP gI gR gT gF gS gE gC mB ml mz)]) (va_A ([(h0, zoMd mS mQ gK gV gH mL mo gM mch mA mP gI gR gT gF gS gE gC mB ml mz)]) sz)) 0 0 (va_A ([(h0, zoMd mS mQ gK gV gH mL mo gM mch mA mP gI gR gT gF gS gE gC mB ml mz)]) sz) := by
  refine Met.ofW (cc := b_Md_begin) (maxL := 1) (ret := (some .int)) (by decide) rfl ?_
  intro p e s m args below meth c s₁ B hml hv
  obtain ⟨rfl, hsz, hP, hK, hD0, hE⟩ := hv
  have hx := B.exec
  have hb := B.bytes
  have hr := B.returns
  have hts := fun w h => atoms_spec (ws := w_Md_begin) B.pre w (List.mem_cons_of_mem _ h)
  have hown : s.vm.findClass R_Md = some m.cls := findClass_of_methodNamed B.named
  have hlocks := B.notSynchronized
  subst hsz
  have hD := hD0.self (sz := s.heap.size)
  generalize hAe : va_A ([(h0, zoMd mS mQ gK gV gH mL mo gM mch mA mP gI gR gT gF gS gE gC mB ml mz)]) s.heap.size = A at hD ⊢
  have hA : ∀ q : Nat, s.heap.size ≤ q → A q := fun q h => by rw [← hAe]; exact Or.inr h
  have hS : va_S A s.heap s.heap [] := va_S.rf
  have hl := lv_entry ([.ref h0]) (n := 1) (Nat.le_of_ble_eq_true rfl)
  rw [lg_entry_eq]
  generalize (lg_sl ([.ref h0]) ++ List.replicate (1 - (lg_sl ([.ref h0])).length) Slot.unset).toArray = ls at hl ⊢
  have hl : lv_has ls 1 [(0, .ref h0)] := hl
  refine lv_aload_n hx hb d_Md_begin_0 rfl (lv_at hl 0 rfl) ?_
  refine va_get (D := (dC, dI)) (ci := 6) (v := .int (zb mo)) (C := R_Md) (T := F_Md) (N := 21) hx hb hts i_Md hown hK hP 0 rfl rfl 6 (by decide) (hts _ wd_569) (fun _ h9 => h9) rfl d_Md_begin_1 ?_
  refine zb_if_eq (tgt := 9) hx hb d_Md_begin_4 (by decide) (fun c_4 => ?_) (fun c_4 => absurd c_4 (by rw [ho]; decide))
  refine lv_aload_n hx hb d_Md_begin_9 rfl (lv_at hl 0 rfl) ?_
  refine lv_iconst (v := (nI 1)) hx hb d_Md_begin_10 (by decide) ?_
  refine W.eq (g2 := F0 m 11 ls [.int (zb true), .ref h0]) rfl ?_
  refine va_put (D := (dC, dI)) (ci := 6) (v := .int (zb true)) (ty := .boolean) (C := R_Md) (T := F_Md) (N := 21) hx hb hts i_Md t_Md t_Md_ok n_Md hown hK hP hD hS 0 rfl rfl 6 (by decide) (hts _ wd_569) (fun _ h9 => h9) rfl (by decide +kernel) (zb_narrow _) (zb_fits _) (Nat.le_of_ble_eq_true rfl) d_Md_begin_11 (fun H locs hP hD hS => ?_)
  have hP : va_P (dC, dI) vwCl ([(h0, zoMd mS mQ gK gV gH mL true gM mch mA mP gI gR gT gF gS gE gC mB ml mz)]) H := hP
  have hD : va_D A ([(h0, zoMd mS mQ gK gV gH mL true gM mch mA mP gI gR gT gF gS gE gC mB ml mz)]) := hD
  refine lv_aload_n hx hb d_Md_begin_14 rfl (lv_at hl 0 rfl) ?_
  refine lv_iconst (v := (nI 0)) hx hb d_Md_begin_15 (by decide) ?_
  refine va_put (D := (dC, dI)) (ci := 6) (v := .int (nI 0)) (ty := .int) (C := R_Md) (T := F_Md) (N := 21) hx hb hts i_Md t_Md t_Md_ok n_Md hown hK hP hD hS 0 rfl rfl 8 (by decide) (hts _ wd_571) (fun _ h9 => h9) rfl (by decide +kernel) rfl rfl (Nat.le_of_ble_eq_true rfl) d_Md_begin_16 (fun H locs hP hD hS => ?_)
  have hP : va_P (dC, dI) vwCl ([(h0, zoMd mS mQ gK gV gH mL true gM 0 mA mP gI gR gT gF gS gE gC mB ml mz)]) H := hP
  have hD : va_D A ([(h0, zoMd mS mQ gK gV gH mL true gM 0 mA mP gI gR gT gF gS gE gC mB ml mz)]) := hD
  refine lv_iconst (v := (nI 0)) hx hb d_Md_begin_19 (by decide) ?_
  have hP9 := hP.sub (ws' := [(h0, zoMd mS mQ gK gV gH mL true gM 0 mA mP gI gR gT gF gS gE gC mB ml mz)]) [0] rfl
  have hD9 := hD.sub (ws' := [(h0, zoMd mS mQ gK gV gH mL true gM 0 mA mP gI gR gT gF gS gE gC mB ml mz)]) [0] (by decide) rfl
  exact W.iret hx hb hr (fun t ht hW => ⟨⟨(), trivial, rfl, by rw [ht]; exact hP9, hD9⟩, hS.F ht⟩) hS.2.2 d_Md_begin_20
set_option maxHeartbeats 4000000 in
set_option maxRecDepth 100000 in
theorem c_Md_put_ref (l : Launch) (dC : Nat → ClassId) (dI : Nat → Nat → Nat) (cT : Nat → ClassId) (sz : Nat) (h0 : Nat) (mS : Nat) (mQ : Nat) (gK : Nat) (gV : Nat) (gH : Nat) (mL : Nat) (mo : Bool) (gM : Nat) (mch : Nat) (mA : Nat) (mP : Nat) (gI : Nat) (gR : Nat) (gT : Nat) (gF : Nat) (gS : Nat) (gE : Nat) (gC : Nat) (mB : Nat) (ml : Int32) (mz : Int32) (k : Int32) (v : Int32) (b : Bool) (hch : mch ≤ 4) (hno : ¬ (isIn k 32 = true ∧ mo = true ∧ mch < 4)) : Met l y_Md_put w_Md_put ({ frames := 1, cells := 0, slots := 0, locals := 21 } : Room) (zPre (dC, dI) vwCl (zT cT) [.ref h0, .int k, .int v, .int (zb b)] ([(h0, zoMd mS mQ gK gV gH mL mo gM mch mA mP gI gR gT gF gS gE gC mB ml mz)]) sz) (zQ (dC, dI) vwCl (S := Unit) (fun zu => True) (fun zu => some (.int (-1))) (fun zu => [(h0, zoMd mS mQ gK gV gH mL mo gM mch mA mP gI gR gT gF gS gE gC mB ml mz)]) (va_A ([(h0, zoMd mS mQ gK gV gH mL mo gM mch mA mP gI gR gT gF gS gE gC mB ml mz)]) sz)) 0 0 (va_A ([(h0, zoMd mS mQ gK gV gH mL mo gM mch mA mP gI gR gT gF gS gE gC mB ml mz)]) sz) := by
  refine Met.ofW (cc := b_Md_put) (maxL := 4) (ret := (some .int)) (by decide) rfl ?_
  intro p e s m args below meth c s₁ B hml hv
  obtain ⟨rfl, hsz, hP, hK, hD0, hE⟩ := hv
  have hx := B.exec
  have hb := B.bytes
  have hr := B.returns
  have hts := fun w h => atoms_spec (ws := w_Md_put) B.pre w (List.mem_cons_of_mem _ h)
  have hown : s.vm.findClass R_Md = some m.cls := findClass_of_methodNamed B.named
  have hlocks := B.notSynchronized
  subst hsz
  have hD := hD0.self (sz := s.heap.size)
  generalize hAe : va_A ([(h0, zoMd mS mQ gK gV gH mL mo gM mch mA mP gI gR gT gF gS gE gC mB ml mz)]) s.heap.size = A at hD ⊢
  have hA : ∀ q : Nat, s.heap.size ≤ q → A q := fun q h => by rw [← hAe]; exact Or.inr h
  have hS : va_S A s.heap s.heap [] := va_S.rf
  have hl := lv_entry ([.ref h0, .int k, .int v, .int (zb b)]) (n := 4) (Nat.le_of_ble_eq_true rfl)
  rw [lg_entry_eq]
  generalize (lg_sl ([.ref h0, .int k, .int v, .int (zb b)]) ++ List.replicate (4 - (lg_sl ([.ref h0, .int k, .int v, .int (zb b)])).length) Slot.unset).toArray = ls at hl ⊢
  have hl : lv_has ls 4 [(0, .ref h0), (1, .int k), (2, .int v), (3, .int (zb b))] := hl
  refine lv_iload_n hx hb d_Md_put_0 rfl (lv_at hl 1 rfl) ?_
  refine lv_bipush (v := (nI 32)) hx hb d_Md_put_1 (by decide) ?_
  refine zw_R (r := .int (zb (isIn k 32))) (va_runS (As := [.int k, .int (nI 32)]) (rest := []) ⟨hx, hb, hml, hown, hts⟩ (c_Md_in l dC dI cT k 32) (va_cwS 2 hts (zgS wd_635 wd_636 wd_11 wd_637) rfl rfl rfl (by decide +kernel) ⟨Nat.le_of_ble_eq_true rfl, Nat.le_of_ble_eq_true rfl⟩) ⟨zPreR_blind, zp_R hK hE (zSub (X := [(h0, zoMd mS mQ gK gV gH mL mo gM mch mA mP gI gR gT gF gS gE gC mB ml mz)]) (pl := []) hP [] rfl)⟩ rfl rfl hl.1 rfl (lv_room (Nat.le_of_ble_eq_true rfl)) d_Md_put_3 ⟨Nat.le_of_ble_eq_true rfl, Nat.le_of_ble_eq_true rfl⟩) ?_
  refine zb_if_eq (tgt := 24) hx hb d_Md_put_6 (by decide) (fun c_6 => ?_) (fun c_6 => ?_)
  · refine lv_iconst (v := (-1)) hx hb d_Md_put_24 (by decide) ?_
    have hP9 := hP.sub (ws' := [(h0, zoMd mS mQ gK gV gH mL mo gM mch mA mP gI gR gT gF gS gE gC mB ml mz)]) [0] rfl
    have hD9 := hD.sub (ws' := [(h0, zoMd mS mQ gK gV gH mL mo gM mch mA mP gI gR gT gF gS gE gC mB ml mz)]) [0] (by decide) rfl
    exact W.iret hx hb hr (fun t ht hW => ⟨⟨(), trivial, rfl, by rw [ht]; exact hP9, hD9⟩, hS.F ht⟩) hS.2.2 d_Md_put_25
  · refine lv_aload_n hx hb d_Md_put_9 rfl (lv_at hl 0 rfl) ?_
    refine va_get (D := (dC, dI)) (ci := 6) (v := .int (zb mo)) (C := R_Md) (T := F_Md) (N := 21) hx hb hts i_Md hown hK hP 0 rfl rfl 6 (by decide) (hts _ wd_569) (fun _ h9 => h9) rfl d_Md_put_10 ?_
    refine zb_if_eq (tgt := 24) hx hb d_Md_put_13 (by decide) (fun c_13 => ?_) (fun c_13 => ?_)
    · refine lv_iconst (v := (-1)) hx hb d_Md_put_24 (by decide) ?_
      have hP9 := hP.sub (ws' := [(h0, zoMd mS mQ gK gV gH mL mo gM mch mA mP gI gR gT gF gS gE gC mB ml mz)]) [0] rfl
      have hD9 := hD.sub (ws' := [(h0, zoMd mS mQ gK gV gH mL mo gM mch mA mP gI gR gT gF gS gE gC mB ml mz)]) [0] (by decide) rfl
      exact W.iret hx hb hr (fun t ht hW => ⟨⟨(), trivial, rfl, by rw [ht]; exact hP9, hD9⟩, hS.F ht⟩) hS.2.2 d_Md_put_25
    · refine lv_aload_n hx hb d_Md_put_16 rfl (lv_at hl 0 rfl) ?_
      refine va_get (D := (dC, dI)) (ci := 6) (v := .int (nI mch)) (C := R_Md) (T := F_Md) (N := 21) hx hb hts i_Md hown hK hP 0 rfl rfl 8 (by decide) (hts _ wd_571) (fun _ h9 => h9) rfl d_Md_put_17 ?_
      refine lv_iconst (v := (nI 4)) hx hb d_Md_put_20 (by decide) ?_
      refine zn_icmp_ne (tgt := 26) hx hb (a := mch) (b := 4) (by omega) (by omega) d_Md_put_21 (by decide) (fun c_21 => absurd c_21 (fun q => hno ⟨c_6, c_13, by omega⟩)) (fun c_21 => ?_)
      refine lv_iconst (v := (-1)) hx hb d_Md_put_24 (by decide) ?_
      have hP9 := hP.sub (ws' := [(h0, zoMd mS mQ gK gV gH mL mo gM mch mA mP gI gR gT gF gS gE gC mB ml mz)]) [0] rfl
      have hD9 := hD.sub (ws' := [(h0, zoMd mS mQ gK gV gH mL mo gM mch mA mP gI gR gT gF gS gE gC mB ml mz)]) [0] (by decide) rfl
      exact W.iret hx hb hr (fun t ht hW => ⟨⟨(), trivial, rfl, by rw [ht]; exact hP9, hD9⟩, hS.F ht⟩) hS.2.2 d_Md_put_25
set_option maxHeartbeats 4000000 in
set_option maxRecDepth 100000 in
theorem c_Md_put_full (l : Launch) (dC : Nat → ClassId) (dI : Nat → Nat → Nat) (cT : Nat → ClassId) (sz : Nat) (h0 : Nat) (mS : Nat) (mQ : Nat) (gK : Nat) (gV : Nat) (gH : Nat) (mL : Nat) (mo : Bool) (gM : Nat) (mch : Nat) (mA : Nat) (mP : Nat) (gI : Nat) (gR : Nat) (gT : Nat) (gF : Nat) (gS : Nat) (gE : Nat) (gC : Nat) (mB : Nat) (ml : Int32) (mz : Int32) (k : Int32) (v : Int32) (b : Bool) (hrm : mL ≤ (mA + 4) * mS) (hrm2 : (mA + 4) * mS < 2 ^ 31) (hk : isIn k 32 = true) (ho : mo = true) (hc4 : mch < 4) (hfu : (mA + 4) * mS - mL < mch + 3) : Met l y_Md_put w_Md_put ({ frames := 1, cells := 0, slots := 0, locals := 21 } : Room) (zPre (dC, dI) vwCl (zT cT) [.ref h0, .int k, .int v, .int (zb b)] ([(h0, zoMd mS mQ gK gV gH mL mo gM mch mA mP gI gR gT gF gS gE gC mB ml mz)]) sz) (zQ (dC, dI) vwCl (S := Unit) (fun zu => True) (fun zu => some (.int (-2))) (fun zu => [(h0, zoMd mS mQ gK gV gH mL mo gM mch mA mP gI gR gT gF gS gE gC mB ml mz)]) (va_A ([(h0, zoMd mS mQ gK gV gH mL mo gM mch mA mP gI gR gT gF gS gE gC mB ml mz)]) sz)) 0 0 (va_A ([(h0, zoMd mS mQ gK gV gH mL mo gM mch mA mP gI gR gT gF gS gE gC mB ml mz)]) sz) := by
  refine Met.ofW (cc := b_Md_put) (maxL := 4) (ret := (some .int)) (by decide) rfl ?_
  intro p e s m args below meth c s₁ B hml hv
  obtain ⟨rfl, hsz, hP, hK, hD0, hE⟩ := hv
  have hx := B.exec
  have hb := B.bytes
  have hr := B.returns
  have hts := fun w h => atoms_spec (ws := w_Md_put) B.pre w (List.mem_cons_of_mem _ h)
  have hown : s.vm.findClass R_Md = some m.cls := findClass_of_methodNamed B.named
  have hlocks := B.notSynchronized
  subst hsz
  have hD := hD0.self (sz := s.heap.size)
  generalize hAe : va_A ([(h0, zoMd mS mQ gK gV gH mL mo gM mch mA mP gI gR gT gF gS gE gC mB ml mz)]) s.heap.size = A at hD ⊢
  have hA : ∀ q : Nat, s.heap.size ≤ q → A q := fun q h => by rw [← hAe]; exact Or.inr h
  have hS : va_S A s.heap s.heap [] := va_S.rf
  have hl := lv_entry ([.ref h0, .int k, .int v, .int (zb b)]) (n := 4) (Nat.le_of_ble_eq_true rfl)
  rw [lg_entry_eq]
  generalize (lg_sl ([.ref h0, .int k, .int v, .int (zb b)]) ++ List.replicate (4 - (lg_sl ([.ref h0, .int k, .int v, .int (zb b)])).length) Slot.unset).toArray = ls at hl ⊢
  have hl : lv_has ls 4 [(0, .ref h0), (1, .int k), (2, .int v), (3, .int (zb b))] := hl
  refine lv_iload_n hx hb d_Md_put_0 rfl (lv_at hl 1 rfl) ?_
  refine lv_bipush (v := (nI 32)) hx hb d_Md_put_1 (by decide) ?_
  refine zw_R (r := .int (zb (isIn k 32))) (va_runS (As := [.int k, .int (nI 32)]) (rest := []) ⟨hx, hb, hml, hown, hts⟩ (c_Md_in l dC dI cT k 32) (va_cwS 2 hts (zgS wd_635 wd_636 wd_11 wd_637) rfl rfl rfl (by decide +kernel) ⟨Nat.le_of_ble_eq_true rfl, Nat.le_of_ble_eq_true rfl⟩) ⟨zPreR_blind, zp_R hK hE (zSub (X := [(h0, zoMd mS mQ gK gV gH mL mo gM mch mA mP gI gR gT gF gS gE gC mB ml mz)]) (pl := []) hP [] rfl)⟩ rfl rfl hl.1 rfl (lv_room (Nat.le_of_ble_eq_true rfl)) d_Md_put_3 ⟨Nat.le_of_ble_eq_true rfl, Nat.le_of_ble_eq_true rfl⟩) ?_
  refine zb_if_eq (tgt := 24) hx hb d_Md_put_6 (by decide) (fun c_6 => absurd c_6 (by rw [hk]; decide)) (fun c_6 => ?_)
  refine lv_aload_n hx hb d_Md_put_9 rfl (lv_at hl 0 rfl) ?_
  refine va_get (D := (dC, dI)) (ci := 6) (v := .int (zb mo)) (C := R_Md) (T := F_Md) (N := 21) hx hb hts i_Md hown hK hP 0 rfl rfl 6 (by decide) (hts _ wd_569) (fun _ h9 => h9) rfl d_Md_put_10 ?_
  refine zb_if_eq (tgt := 24) hx hb d_Md_put_13 (by decide) (fun c_13 => absurd c_13 (by rw [ho]; decide)) (fun c_13 => ?_)
  refine lv_aload_n hx hb d_Md_put_16 rfl (lv_at hl 0 rfl) ?_
  refine va_get (D := (dC, dI)) (ci := 6) (v := .int (nI mch)) (C := R_Md) (T := F_Md) (N := 21) hx hb hts i_Md hown hK hP 0 rfl rfl 8 (by decide) (hts _ wd_571) (fun _ h9 => h9) rfl d_Md_put_17 ?_
  refine lv_iconst (v := (nI 4)) hx hb d_Md_put_20 (by decide) ?_
  refine zn_icmp_ne (tgt := 26) hx hb (a := mch) (b := 4) (by omega) (by omega) d_Md_put_21 (by decide) (fun c_21 => ?_) (fun c_21 => absurd c_21 (by omega))
  refine lv_aload_n hx hb d_Md_put_26 rfl (lv_at hl 0 rfl) ?_
  refine zw_R (r := .int (nI ((mA + 4) * mS - mL))) (va_runV (As := []) (rest := []) ⟨hx, hb, hml, hown, hts⟩ (c_Md_room l dC dI cT h0 mS mQ gK gV gH mL mo gM mch mA mP gI gR gT gF gS gE gC mB ml mz (by first | omega | assumption)) (cwV 0 hts (zgV wd_638 wd_640 wp_8 wd_11 wd_641) rfl rfl rfl (by decide +kernel) ⟨Nat.le_of_ble_eq_true rfl, Nat.le_of_ble_eq_true rfl⟩) ⟨zPreR_blind, va_recv hK hP (ci := 6) (q0 := 0) rfl rfl, zp_R hK hE (zSub (X := [(h0, zoMd mS mQ gK gV gH mL mo gM mch mA mP gI gR gT gF gS gE gC mB ml mz)]) (pl := []) hP [0] rfl)⟩ rfl rfl hl.1 rfl (lv_room (Nat.le_of_ble_eq_true rfl)) d_Md_put_27 ⟨Nat.le_of_ble_eq_true rfl, Nat.le_of_ble_eq_true rfl⟩) ?_
  refine lv_aload_n hx hb d_Md_put_30 rfl (lv_at hl 0 rfl) ?_
  refine va_get (D := (dC, dI)) (ci := 6) (v := .int (nI mch)) (C := R_Md) (T := F_Md) (N := 21) hx hb hts i_Md hown hK hP 0 rfl rfl 8 (by decide) (hts _ wd_571) (fun _ h9 => h9) rfl d_Md_put_31 ?_
  refine lv_iconst (v := (nI 3)) hx hb d_Md_put_34 (by decide) ?_
  refine zn_iadd hx hb d_Md_put_35 ?_
  refine zn_icmp_ge (tgt := 42) hx hb (a := (mA + 4) * mS - mL) (b := mch + 3) (by omega) (by omega) d_Md_put_36 (by decide) (fun c_36 => absurd c_36 (by omega)) (fun c_36 => ?_)
  refine lv_bipush (v := (-2)) hx hb d_Md_put_39 (by decide) ?_
  have hP9 := hP.sub (ws' := [(h0, zoMd mS mQ gK gV gH mL mo gM mch mA mP gI gR gT gF gS gE gC mB ml mz)]) [0] rfl
  have hD9 := hD.sub (ws' := [(h0, zoMd mS mQ gK gV gH mL mo gM mch mA mP gI gR gT gF gS gE gC mB ml mz)]) [0] (by decide) rfl
  exact W.iret hx hb hr (fun t ht hW => ⟨⟨(), trivial, rfl, by rw [ht]; exact hP9, hD9⟩, hS.F ht⟩) hS.2.2 d_Md_put_41
set_option maxHeartbeats 4000000 in
set_option maxRecDepth 100000 in
theorem c_Md_put_ok (l : Launch) (dC : Nat → ClassId) (dI : Nat → Nat → Nat) (cT : Nat → ClassId) (sz : Nat) (h0 : Nat) (mS : Nat) (mQ : Nat) (gK : Nat) (gV : Nat) (gH : Nat) (mL : Nat) (mo : Bool) (gM : Nat) (mch : Nat) (mA : Nat) (mP : Nat) (gI : Nat) (gR : Nat) (gT : Nat) (gF : Nat) (gS : Nat) (gE : Nat) (gC : Nat) (mB : Nat) (ml : Int32) (mz : Int32) (k : Int32) (v : Int32) (b : Bool) (mk : Nat → Int32) (mv : Nat → Int32) (mh : Nat → Bool) (mm : Nat → Nat) (hL : mL < 1000) (hrm : mL ≤ (mA + 4) * mS) (hrm2 : (mA + 4) * mS < 2 ^ 31) (hk : isIn k 32 = true) (ho : mo = true) (hc4 : mch < 4) (hfu : mch + 3 ≤ (mA + 4) * mS - mL) : Met l y_Md_put w_Md_put ({ frames := 1, cells := 0, slots := 0, locals := 23 } : Room) (zPre (dC, dI) vwCl (zT cT) [.ref h0, .int k, .int v, .int (zb b)] ([(h0, zoMd mS mQ gK gV gH mL mo gM mch mA mP gI gR gT gF gS gE gC mB ml mz), (gK, zaI (cT 0) 1100 mk), (gV, zaI (cT 0) 1100 mv), (gH, zaZ (cT 2) 1100 mh), (gM, zaN (cT 0) 4 mm)]) sz) (zQ (dC, dI) vwCl (S := Unit) (fun zu => True) (fun zu => some (.int (nI (mL + 1)))) (fun zu => [(h0, zoMd mS mQ gK gV gH (mL + 1) mo gM (mch + 1) mA mP gI gR gT gF gS gE gC mB ml mz), (gK, zaI (cT 0) 1100 (va_up mk (mL + 1) k)), (gV, zaI (cT 0) 1100 (va_up mv (mL + 1) v)), (gH, zaZ (cT 2) 1100 (va_up mh (mL + 1) b)), (gM, zaN (cT 0) 4 (va_up mm mch (mL + 1)))]) (va_A ([(h0, zoMd mS mQ gK gV gH mL mo gM mch mA mP gI gR gT gF gS gE gC mB ml mz), (gK, zaI (cT 0) 1100 mk), (gV, zaI (cT 0) 1100 mv), (gH, zaZ (cT 2) 1100 mh), (gM, zaN (cT 0) 4 mm)]) sz)) 0 0 (va_A ([(h0, zoMd mS mQ gK gV gH mL mo gM mch mA mP gI gR gT gF gS gE gC mB ml mz), (gK, zaI (cT 0) 1100 mk), (gV, zaI (cT 0) 1100 mv), (gH, zaZ (cT 2) 1100 mh), (gM, zaN (cT 0) 4 mm)]) sz) := by
  refine Met.ofW (cc := b_Md_put) (maxL := 4) (ret := (some .int)) (by decide) rfl ?_
  intro p e s m args below meth c s₁ B hml hv
  obtain ⟨rfl, hsz, hP, hK, hD0, hE⟩ := hv
  have hx := B.exec
  have hb := B.bytes
  have hr := B.returns
  have hts := fun w h => atoms_spec (ws := w_Md_put) B.pre w (List.mem_cons_of_mem _ h)
  have hown : s.vm.findClass R_Md = some m.cls := findClass_of_methodNamed B.named
  have hlocks := B.notSynchronized
  subst hsz
  have hD := hD0.self (sz := s.heap.size)
  generalize hAe : va_A ([(h0, zoMd mS mQ gK gV gH mL mo gM mch mA mP gI gR gT gF gS gE gC mB ml mz), (gK, zaI (cT 0) 1100 mk), (gV, zaI (cT 0) 1100 mv), (gH, zaZ (cT 2) 1100 mh), (gM, zaN (cT 0) 4 mm)]) s.heap.size = A at hD ⊢
  have hA : ∀ q : Nat, s.heap.size ≤ q → A q := fun q h => by rw [← hAe]; exact Or.inr h
  have hS : va_S A s.heap s.heap [] := va_S.rf
  have hl := lv_entry ([.ref h0, .int k, .int v, .int (zb b)]) (n := 4) (Nat.le_of_ble_eq_true rfl)
  rw [lg_entry_eq]
  generalize (lg_sl ([.ref h0, .int k, .int v, .int (zb b)]) ++ List.replicate (4 - (lg_sl ([.ref h0, .int k, .int v, .int (zb b)])).length) Slot.unset).toArray = ls at hl ⊢
  have hl : lv_has ls 4 [(0, .ref h0), (1, .int k), (2, .int v), (3, .int (zb b))] := hl
  refine lv_iload_n hx hb d_Md_put_0 rfl (lv_at hl 1 rfl) ?_
  refine lv_bipush (v := (nI 32)) hx hb d_Md_put_1 (by decide) ?_
  refine zw_R (r := .int (zb (isIn k 32))) (va_runS (As := [.int k, .int (nI 32)]) (rest := []) ⟨hx, hb, hml, hown, hts⟩ (c_Md_in l dC dI cT k 32) (va_cwS 2 hts (zgS wd_635 wd_636 wd_11 wd_637) rfl rfl rfl (by decide +kernel) ⟨Nat.le_of_ble_eq_true rfl, Nat.le_of_ble_eq_true rfl⟩) ⟨zPreR_blind, zp_R hK hE (zSub (X := [(h0, zoMd mS mQ gK gV gH mL mo gM mch mA mP gI gR gT gF gS gE gC mB ml mz), (gK, zaI (cT 0) 1100 mk), (gV, zaI (cT 0) 1100 mv), (gH, zaZ (cT 2) 1100 mh), (gM, zaN (cT 0) 4 mm)]) (pl := []) hP [] rfl)⟩ rfl rfl hl.1 rfl (lv_room (Nat.le_of_ble_eq_true rfl)) d_Md_put_3 ⟨Nat.le_of_ble_eq_true rfl, Nat.le_of_ble_eq_true rfl⟩) ?_
  refine zb_if_eq (tgt := 24) hx hb d_Md_put_6 (by decide) (fun c_6 => absurd c_6 (by rw [hk]; decide)) (fun c_6 => ?_)
  refine lv_aload_n hx hb d_Md_put_9 rfl (lv_at hl 0 rfl) ?_
  refine va_get (D := (dC, dI)) (ci := 6) (v := .int (zb mo)) (C := R_Md) (T := F_Md) (N := 21) hx hb hts i_Md hown hK hP 0 rfl rfl 6 (by decide) (hts _ wd_569) (fun _ h9 => h9) rfl d_Md_put_10 ?_
  refine zb_if_eq (tgt := 24) hx hb d_Md_put_13 (by decide) (fun c_13 => absurd c_13 (by rw [ho]; decide)) (fun c_13 => ?_)
  refine lv_aload_n hx hb d_Md_put_16 rfl (lv_at hl 0 rfl) ?_
  refine va_get (D := (dC, dI)) (ci := 6) (v := .int (nI mch)) (C := R_Md) (T := F_Md) (N := 21) hx hb hts i_Md hown hK hP 0 rfl rfl 8 (by decide) (hts _ wd_571) (fun _ h9 => h9) rfl d_Md_put_17 ?_
  refine lv_iconst (v := (nI 4)) hx hb d_Md_put_20 (by decide) ?_
  refine zn_icmp_ne (tgt := 26) hx hb (a := mch) (b := 4) (by omega) (by omega) d_Md_put_21 (by decide) (fun c_21 => ?_) (fun c_21 => absurd c_21 (by omega))
  refine lv_aload_n hx hb d_Md_put_26 rfl (lv_at hl 0 rfl) ?_
  refine zw_R (r := .int (nI ((mA + 4) * mS - mL))) (va_runV (As := []) (rest := []) ⟨hx, hb, hml, hown, hts⟩ (c_Md_room l dC dI cT h0 mS mQ gK gV gH mL mo gM mch mA mP gI gR gT gF gS gE gC mB ml mz (by first | omega | assumption)) (cwV 0 hts (zgV wd_638 wd_640 wp_8 wd_11 wd_641) rfl rfl rfl (by decide +kernel) ⟨Nat.le_of_ble_eq_true rfl, Nat.le_of_ble_eq_true rfl⟩) ⟨zPreR_blind, va_recv hK hP (ci := 6) (q0 := 0) rfl rfl, zp_R hK hE (zSub (X := [(h0, zoMd mS mQ gK gV gH mL mo gM mch mA mP gI gR gT gF gS gE gC mB ml mz), (gK, zaI (cT 0) 1100 mk), (gV, zaI (cT 0) 1100 mv), (gH, zaZ (cT 2) 1100 mh), (gM, zaN (cT 0) 4 mm)]) (pl := []) hP [0] rfl)⟩ rfl rfl hl.1 rfl (lv_room (Nat.le_of_ble_eq_true rfl)) d_Md_put_27 ⟨Nat.le_of_ble_eq_true rfl, Nat.le_of_ble_eq_true rfl⟩) ?_
  refine lv_aload_n hx hb d_Md_put_30 rfl (lv_at hl 0 rfl) ?_
  refine va_get (D := (dC, dI)) (ci := 6) (v := .int (nI mch)) (C := R_Md) (T := F_Md) (N := 21) hx hb hts i_Md hown hK hP 0 rfl rfl 8 (by decide) (hts _ wd_571) (fun _ h9 => h9) rfl d_Md_put_31 ?_
  refine lv_iconst (v := (nI 3)) hx hb d_Md_put_34 (by decide) ?_
  refine zn_iadd hx hb d_Md_put_35 ?_
  refine zn_icmp_ge (tgt := 42) hx hb (a := (mA + 4) * mS - mL) (b := mch + 3) (by omega) (by omega) d_Md_put_36 (by decide) (fun c_36 => ?_) (fun c_36 => absurd c_36 (by omega))
  refine lv_aload_n hx hb d_Md_put_42 rfl (lv_at hl 0 rfl) ?_
  refine va_get (D := (dC, dI)) (ci := 6) (v := .ref gM) (C := R_Md) (T := F_Md) (N := 21) hx hb hts i_Md hown hK hP 0 rfl rfl 7 (by decide) (hts _ wd_570) (fun _ h9 => h9) rfl d_Md_put_43 ?_
  refine lv_aload_n hx hb d_Md_put_46 rfl (lv_at hl 0 rfl) ?_
  refine va_get (D := (dC, dI)) (ci := 6) (v := .int (nI mch)) (C := R_Md) (T := F_Md) (N := 21) hx hb hts i_Md hown hK hP 0 rfl rfl 8 (by decide) (hts _ wd_571) (fun _ h9 => h9) rfl d_Md_put_47 ?_
  refine lv_aload_n hx hb d_Md_put_50 rfl (lv_at hl 0 rfl) ?_
  refine lv_iload_n hx hb d_Md_put_51 rfl (lv_at hl 1 rfl) ?_
  refine lv_iload_n hx hb d_Md_put_52 rfl (lv_at hl 2 rfl) ?_
  refine lv_iload_n hx hb d_Md_put_53 rfl (lv_at hl 3 rfl) ?_
  refine zw_Q (X := [(h0, zoMd mS mQ gK gV gH mL mo gM mch mA mP gI gR gT gF gS gE gC mB ml mz), (gK, zaI (cT 0) 1100 mk), (gV, zaI (cT 0) 1100 mv), (gH, zaZ (cT 2) 1100 mh), (gM, zaN (cT 0) 4 mm)]) (pl := []) (va_runV (As := [.int k, .int v, .int (zb b)]) (rest := [.int (nI mch), .ref gM]) ⟨hx, hb, hml, hown, hts⟩ (c_Md_log l dC dI cT s.heap.size h0 mS mQ gK gV gH mL mo gM mch mA mP gI gR gT gF gS gE gC mB ml mz k v b mk mv mh (by first | omega | assumption)) (cwV 3 hts (zgV wd_642 wd_644 wp_9 wd_11 wd_645) rfl rfl rfl (by decide +kernel) ⟨Nat.le_of_ble_eq_true rfl, Nat.le_of_ble_eq_true rfl⟩) ⟨zPre_blind, va_recv hK hP (ci := 6) (q0 := 0) rfl rfl, zp_Q (X := [(h0, zoMd mS mQ gK gV gH mL mo gM mch mA mP gI gR gT gF gS gE gC mB ml mz), (gK, zaI (cT 0) 1100 mk), (gV, zaI (cT 0) 1100 mv), (gH, zaZ (cT 2) 1100 mh), (gM, zaN (cT 0) 4 mm)]) (pl := []) hK hE hP hD [0, 1, 2, 3] (by decide) rfl⟩ rfl rfl hl.1 rfl (lv_room (Nat.le_of_ble_eq_true rfl)) d_Md_put_54 ⟨Nat.le_of_ble_eq_true rfl, Nat.le_of_ble_eq_true rfl⟩) hP hD hS hA [0, 1, 2, 3] [4] rfl (wr := [(gM, zaN (cT 0) 4 mm)]) rfl (by decide) (by decide) (fun zu => [.int (nI (mL + 1)), .int (nI mch), .ref gM]) (fun _ => rfl) (fun zu H locs hφ hP hD hS => ?_)
  have hP : va_P (dC, dI) vwCl ([(gM, zaN (cT 0) 4 mm), (h0, zoMd mS mQ gK gV gH (mL + 1) mo gM mch mA mP gI gR gT gF gS gE gC mB ml mz), (gK, zaI (cT 0) 1100 (va_up mk (mL + 1) k)), (gV, zaI (cT 0) 1100 (va_up mv (mL + 1) v)), (gH, zaZ (cT 2) 1100 (va_up mh (mL + 1) b))]) H := hP
  have hD : va_D A ([(gM, zaN (cT 0) 4 mm), (h0, zoMd mS mQ gK gV gH (mL + 1) mo gM mch mA mP gI gR gT gF gS gE gC mB ml mz), (gK, zaI (cT 0) 1100 (va_up mk (mL + 1) k)), (gV, zaI (cT 0) 1100 (va_up mv (mL + 1) v)), (gH, zaZ (cT 2) 1100 (va_up mh (mL + 1) b))]) := hD
  refine zn_iastN hx hb hK hP hD hS 0 0 rfl rfl (i := mch) (x := mL + 1) (by omega) (by omega) d_Md_put_57 (fun H locs hP hD hS => ?_)
  have hP : va_P (dC, dI) vwCl ([(gM, zaN (cT 0) 4 (va_up mm mch (mL + 1))), (h0, zoMd mS mQ gK gV gH (mL + 1) mo gM mch mA mP gI gR gT gF gS gE gC mB ml mz), (gK, zaI (cT 0) 1100 (va_up mk (mL + 1) k)), (gV, zaI (cT 0) 1100 (va_up mv (mL + 1) v)), (gH, zaZ (cT 2) 1100 (va_up mh (mL + 1) b))]) H := hP
  have hD : va_D A ([(gM, zaN (cT 0) 4 (va_up mm mch (mL + 1))), (h0, zoMd mS mQ gK gV gH (mL + 1) mo gM mch mA mP gI gR gT gF gS gE gC mB ml mz), (gK, zaI (cT 0) 1100 (va_up mk (mL + 1) k)), (gV, zaI (cT 0) 1100 (va_up mv (mL + 1) v)), (gH, zaZ (cT 2) 1100 (va_up mh (mL + 1) b))]) := hD
  refine lv_aload_n hx hb d_Md_put_58 rfl (lv_at hl 0 rfl) ?_
  refine lv_dup hx hb d_Md_put_59 rfl ?_
  refine va_get (D := (dC, dI)) (ci := 6) (v := .int (nI mch)) (C := R_Md) (T := F_Md) (N := 21) hx hb hts i_Md hown hK hP 1 rfl rfl 8 (by decide) (hts _ wd_571) (fun _ h9 => h9) rfl d_Md_put_60 ?_
  refine lv_iconst (v := (nI 1)) hx hb d_Md_put_63 (by decide) ?_
  refine zn_iadd hx hb d_Md_put_64 ?_
  refine va_put (D := (dC, dI)) (ci := 6) (v := .int (nI (mch + 1))) (ty := .int) (C := R_Md) (T := F_Md) (N := 21) hx hb hts i_Md t_Md t_Md_ok n_Md hown hK hP hD hS 1 rfl rfl 8 (by decide) (hts _ wd_571) (fun _ h9 => h9) rfl (by decide +kernel) rfl rfl (Nat.le_of_ble_eq_true rfl) d_Md_put_65 (fun H locs hP hD hS => ?_)
  have hP : va_P (dC, dI) vwCl ([(gM, zaN (cT 0) 4 (va_up mm mch (mL + 1))), (h0, zoMd mS mQ gK gV gH (mL + 1) mo gM (mch + 1) mA mP gI gR gT gF gS gE gC mB ml mz), (gK, zaI (cT 0) 1100 (va_up mk (mL + 1) k)), (gV, zaI (cT 0) 1100 (va_up mv (mL + 1) v)), (gH, zaZ (cT 2) 1100 (va_up mh (mL + 1) b))]) H := hP
  have hD : va_D A ([(gM, zaN (cT 0) 4 (va_up mm mch (mL + 1))), (h0, zoMd mS mQ gK gV gH (mL + 1) mo gM (mch + 1) mA mP gI gR gT gF gS gE gC mB ml mz), (gK, zaI (cT 0) 1100 (va_up mk (mL + 1) k)), (gV, zaI (cT 0) 1100 (va_up mv (mL + 1) v)), (gH, zaZ (cT 2) 1100 (va_up mh (mL + 1) b))]) := hD
  refine lv_aload_n hx hb d_Md_put_68 rfl (lv_at hl 0 rfl) ?_
  refine va_get (D := (dC, dI)) (ci := 6) (v := .int (nI (mL + 1))) (C := R_Md) (T := F_Md) (N := 21) hx hb hts i_Md hown hK hP 1 rfl rfl 5 (by decide) (hts _ wd_568) (fun _ h9 => h9) rfl d_Md_put_69 ?_
  have hP9 := hP.sub (ws' := [(h0, zoMd mS mQ gK gV gH (mL + 1) mo gM (mch + 1) mA mP gI gR gT gF gS gE gC mB ml mz), (gK, zaI (cT 0) 1100 (va_up mk (mL + 1) k)), (gV, zaI (cT 0) 1100 (va_up mv (mL + 1) v)), (gH, zaZ (cT 2) 1100 (va_up mh (mL + 1) b)), (gM, zaN (cT 0) 4 (va_up mm mch (mL + 1)))]) [1, 2, 3, 4, 0] rfl
  have hD9 := hD.sub (ws' := [(h0, zoMd mS mQ gK gV gH (mL + 1) mo gM (mch + 1) mA mP gI gR gT gF gS gE gC mB ml mz), (gK, zaI (cT 0) 1100 (va_up mk (mL + 1) k)), (gV, zaI (cT 0) 1100 (va_up mv (mL + 1) v)), (gH, zaZ (cT 2) 1100 (va_up mh (mL + 1) b)), (gM, zaN (cT 0) 4 (va_up mm mch (mL + 1)))]) [1, 2, 3, 4, 0] (by decide) rfl
  exact W.iret hx hb hr (fun t ht hW => ⟨⟨(), trivial, rfl, by rw [ht]; exact hP9, hD9⟩, hS.F ht⟩) hS.2.2 d_Md_put_72
set_option maxHeartbeats 4000000 in
set_option maxRecDepth 100000 in
theorem c_Md_commit_ref (l : Launch) (dC : Nat → ClassId) (dI : Nat → Nat → Nat) (cT : Nat → ClassId) (sz : Nat) (h0 : Nat) (mS : Nat) (mQ : Nat) (gK : Nat) (gV : Nat) (gH : Nat) (mL : Nat) (mo : Bool) (gM : Nat) (mch : Nat) (mA : Nat) (mP : Nat) (gI : Nat) (gR : Nat) (gT : Nat) (gF : Nat) (gS : Nat) (gE : Nat) (gC : Nat) (mB : Nat) (ml : Int32) (mz : Int32) (ho : mo = false) : Met l y_Md_commit w_Md_commit ({ frames := 0, cells := 0, slots := 0, locals := 0 } : Room) (zPre (dC, dI) vwCl (zT cT) [.ref h0] ([(h0, zoMd mS mQ gK gV gH mL mo gM mch mA mP gI gR gT gF gS gE gC mB ml mz)]) sz) (zQ (dC, dI) vwCl (S := Unit) (fun zu => True) (fun zu => some (.int (-1))) (fun zu => [(h0, zoMd mS mQ gK gV gH mL mo gM mch mA mP gI gR gT gF gS gE gC mB ml mz)]) (va_A ([(h0, zoMd mS mQ gK gV gH mL mo gM mch mA mP gI gR gT gF gS gE gC mB ml mz)]) sz)) 0 0 (va_A ([(h0, zoMd mS mQ gK gV gH mL mo gM mch mA mP gI gR gT gF gS gE gC mB ml mz)]) sz) := by
  refine Met.ofW (cc := b_Md_commit) (maxL := 2) (ret := (some .int)) (by decide) rfl ?_
  intro p e s m args below meth c s₁ B hml hv
  obtain ⟨rfl, hsz, hP, hK, hD0, hE⟩ := hv
  have hx := B.exec
  have hb := B.bytes
  have hr := B.returns
  have hts := fun w h => atoms_spec (ws := w_Md_commit) B.pre w (List.mem_cons_of_mem _ h)
  have hown : s.vm.findClass R_Md = some m.cls := findClass_of_methodNamed B.named
  have hlocks := B.notSynchronized
  subst hsz
  have hD := hD0.self (sz := s.heap.size)
  generalize hAe : va_A ([(h0, zoMd mS mQ gK gV gH mL mo gM mch mA mP gI gR gT gF gS gE gC mB ml mz)]) s.heap.size = A at hD ⊢
  have hA : ∀ q : Nat, s.heap.size ≤ q → A q := fun q h => by rw [← hAe]; exact Or.inr h
  have hS : va_S A s.heap s.heap [] := va_S.rf
  have hl := lv_entry ([.ref h0]) (n := 2) (Nat.le_of_ble_eq_true rfl)
  rw [lg_entry_eq]
  generalize (lg_sl ([.ref h0]) ++ List.replicate (2 - (lg_sl ([.ref h0])).length) Slot.unset).toArray = ls at hl ⊢
  have hl : lv_has ls 2 [(0, .ref h0)] := hl
  refine lv_aload_n hx hb d_Md_commit_0 rfl (lv_at hl 0 rfl) ?_
  refine va_get (D := (dC, dI)) (ci := 6) (v := .int (zb mo)) (C := R_Md) (T := F_Md) (N := 21) hx hb hts i_Md hown hK hP 0 rfl rfl 6 (by decide) (hts _ wd_569) (fun _ h9 => h9) rfl d_Md_commit_1 ?_
  refine zb_if_ne (tgt := 9) hx hb d_Md_commit_4 (by decide) (fun c_4 => absurd c_4 (by rw [ho]; decide)) (fun c_4 => ?_)
  refine lv_iconst (v := (-1)) hx hb d_Md_commit_7 (by decide) ?_
  have hP9 := hP.sub (ws' := [(h0, zoMd mS mQ gK gV gH mL mo gM mch mA mP gI gR gT gF gS gE gC mB ml mz)]) [0] rfl
  have hD9 := hD.sub (ws' := [(h0, zoMd mS mQ gK gV gH mL mo gM mch mA mP gI gR gT gF gS gE gC mB ml mz)]) [0] (by decide) rfl
  exact W.iret hx hb hr (fun t ht hW => ⟨⟨(), trivial, rfl, by rw [ht]; exact hP9, hD9⟩, hS.F ht⟩) hS.2.2 d_Md_commit_8
set_option maxHeartbeats 4000000 in
set_option maxRecDepth 100000 in
theorem c_Md_commit_full (l : Launch) (dC : Nat → ClassId) (dI : Nat → Nat → Nat) (cT : Nat → ClassId) (sz : Nat) (h0 : Nat) (mS : Nat) (mQ : Nat) (gK : Nat) (gV : Nat) (gH : Nat) (mL : Nat) (mo : Bool) (gM : Nat) (mch : Nat) (mA : Nat) (mP : Nat) (gI : Nat) (gR : Nat) (gT : Nat) (gF : Nat) (gS : Nat) (gE : Nat) (gC : Nat) (mB : Nat) (ml : Int32) (mz : Int32) (hrm : mL ≤ (mA + 4) * mS) (hrm2 : (mA + 4) * mS < 2 ^ 31) (ho : mo = true) (hfu : (mA + 4) * mS - mL = 0) : Met l y_Md_commit w_Md_commit ({ frames := 1, cells := 0, slots := 0, locals := 20 } : Room) (zPre (dC, dI) vwCl (zT cT) [.ref h0] ([(h0, zoMd mS mQ gK gV gH mL mo gM mch mA mP gI gR gT gF gS gE gC mB ml mz)]) sz) (zQ (dC, dI) vwCl (S := Unit) (fun zu => True) (fun zu => some (.int (-2))) (fun zu => [(h0, zoMd mS mQ gK gV gH mL mo gM mch mA mP gI gR gT gF gS gE gC mB ml mz)]) (va_A ([(h0, zoMd mS mQ gK gV gH mL mo gM mch mA mP gI gR gT gF gS gE gC mB ml mz)]) sz)) 0 0 (va_A ([(h0, zoMd mS mQ gK gV gH mL mo gM mch mA mP gI gR gT gF gS gE gC mB ml mz)]) sz) := by
  refine Met.ofW (cc := b_Md_commit) (maxL := 2) (ret := (some .int)) (by decide) rfl ?_
  intro p e s m args below meth c s₁ B hml hv
  obtain ⟨rfl, hsz, hP, hK, hD0, hE⟩ := hv
  have hx := B.exec
  have hb := B.bytes
  have hr := B.returns
  have hts := fun w h => atoms_spec (ws := w_Md_commit) B.pre w (List.mem_cons_of_mem _ h)
  have hown : s.vm.findClass R_Md = some m.cls := findClass_of_methodNamed B.named
  have hlocks := B.notSynchronized
  subst hsz
  have hD := hD0.self (sz := s.heap.size)
  generalize hAe : va_A ([(h0, zoMd mS mQ gK gV gH mL mo gM mch mA mP gI gR gT gF gS gE gC mB ml mz)]) s.heap.size = A at hD ⊢
  have hA : ∀ q : Nat, s.heap.size ≤ q → A q := fun q h => by rw [← hAe]; exact Or.inr h
  have hS : va_S A s.heap s.heap [] := va_S.rf
  have hl := lv_entry ([.ref h0]) (n := 2) (Nat.le_of_ble_eq_true rfl)
  rw [lg_entry_eq]
  generalize (lg_sl ([.ref h0]) ++ List.replicate (2 - (lg_sl ([.ref h0])).length) Slot.unset).toArray = ls at hl ⊢
  have hl : lv_has ls 2 [(0, .ref h0)] := hl
  refine lv_aload_n hx hb d_Md_commit_0 rfl (lv_at hl 0 rfl) ?_
  refine va_get (D := (dC, dI)) (ci := 6) (v := .int (zb mo)) (C := R_Md) (T := F_Md) (N := 21) hx hb hts i_Md hown hK hP 0 rfl rfl 6 (by decide) (hts _ wd_569) (fun _ h9 => h9) rfl d_Md_commit_1 ?_
  refine zb_if_ne (tgt := 9) hx hb d_Md_commit_4 (by decide) (fun c_4 => ?_) (fun c_4 => absurd c_4 (by rw [ho]; decide))
  refine lv_aload_n hx hb d_Md_commit_9 rfl (lv_at hl 0 rfl) ?_
  refine zw_R (r := .int (nI ((mA + 4) * mS - mL))) (va_runV (As := []) (rest := []) ⟨hx, hb, hml, hown, hts⟩ (c_Md_room l dC dI cT h0 mS mQ gK gV gH mL mo gM mch mA mP gI gR gT gF gS gE gC mB ml mz (by first | omega | assumption)) (cwV 0 hts (zgV wd_638 wd_640 wp_8 wd_11 wd_641) rfl rfl rfl (by decide +kernel) ⟨Nat.le_of_ble_eq_true rfl, Nat.le_of_ble_eq_true rfl⟩) ⟨zPreR_blind, va_recv hK hP (ci := 6) (q0 := 0) rfl rfl, zp_R hK hE (zSub (X := [(h0, zoMd mS mQ gK gV gH mL mo gM mch mA mP gI gR gT gF gS gE gC mB ml mz)]) (pl := []) hP [0] rfl)⟩ rfl rfl hl.1 rfl (lv_room (Nat.le_of_ble_eq_true rfl)) d_Md_commit_10 ⟨Nat.le_of_ble_eq_true rfl, Nat.le_of_ble_eq_true rfl⟩) ?_
  refine zn_if_ne (tgt := 19) hx hb (a := (mA + 4) * mS - mL) (by omega) d_Md_commit_13 (by decide) (fun c_13 => absurd c_13 (by omega)) (fun c_13 => ?_)
  refine lv_bipush (v := (-2)) hx hb d_Md_commit_16 (by decide) ?_
  have hP9 := hP.sub (ws' := [(h0, zoMd mS mQ gK gV gH mL mo gM mch mA mP gI gR gT gF gS gE gC mB ml mz)]) [0] rfl
  have hD9 := hD.sub (ws' := [(h0, zoMd mS mQ gK gV gH mL mo gM mch mA mP gI gR gT gF gS gE gC mB ml mz)]) [0] (by decide) rfl
  exact W.iret hx hb hr (fun t ht hW => ⟨⟨(), trivial, rfl, by rw [ht]; exact hP9, hD9⟩, hS.F ht⟩) hS.2.2 d_Md_commit_18
set_option maxHeartbeats 4000000 in
set_option maxRecDepth 100000 in
theorem c_Md_commit_ok (l : Launch) (dC : Nat → ClassId) (dI : Nat → Nat → Nat) (cT : Nat → ClassId) (sz : Nat) (h0 : Nat) (mS : Nat) (mQ : Nat) (gK : Nat) (gV : Nat) (gH : Nat) (mL : Nat) (mo : Bool) (gM : Nat) (mch : Nat) (mA : Nat) (mP : Nat) (gI : Nat) (gR : Nat) (gT : Nat) (gF : Nat) (gS : Nat) (gE : Nat) (gC : Nat) (mB : Nat) (ml : Int32) (mz : Int32) (mk : Nat → Int32) (mv : Nat → Int32) (mh : Nat → Bool) (hL : mL < 1000) (hrm : mL ≤ (mA + 4) * mS) (hrm2 : (mA + 4) * mS < 2 ^ 31) (ho : mo = true) (hfu : ¬ (mA + 4) * mS - mL = 0) : Met l y_Md_commit w_Md_commit ({ frames := 1, cells := 0, slots := 0, locals := 23 } : Room) (zPre (dC, dI) vwCl (zT cT) [.ref h0] ([(h0, zoMd mS mQ gK gV gH mL mo gM mch mA mP gI gR gT gF gS gE gC mB ml mz), (gK, zaI (cT 0) 1100 mk), (gV, zaI (cT 0) 1100 mv), (gH, zaZ (cT 2) 1100 mh)]) sz) (zQ (dC, dI) vwCl (S := Unit) (fun zu => True) (fun zu => some (.int (nI (zcom (va_up mk (mL + 1) (-1)) (mL + 1))))) (fun zu => [(h0, zoMd mS mQ gK gV gH (mL + 1) false gM 0 mA mP gI gR gT gF gS gE gC mB ml mz), (gK, zaI (cT 0) 1100 (va_up mk (mL + 1) (-1))), (gV, zaI (cT 0) 1100 (va_up mv (mL + 1) (nI 0))), (gH, zaZ (cT 2) 1100 (va_up mh (mL + 1) false))]) (va_A ([(h0, zoMd mS mQ gK gV gH mL mo gM mch mA mP gI gR gT gF gS gE gC mB ml mz), (gK, zaI (cT 0) 1100 mk), (gV, zaI (cT 0) 1100 mv), (gH, zaZ (cT 2) 1100 mh)]) sz)) 0 0 (va_A ([(h0, zoMd mS mQ gK gV gH mL mo gM mch mA mP gI gR gT gF gS gE gC mB ml mz), (gK, zaI (cT 0) 1100 mk), (gV, zaI (cT 0) 1100 mv), (gH, zaZ (cT 2) 1100 mh)]) sz) := by
  refine Met.ofW (cc := b_Md_commit) (maxL := 2) (ret := (some .int)) (by decide) rfl ?_
  intro p e s m args below meth c s₁ B hml hv
  obtain ⟨rfl, hsz, hP, hK, hD0, hE⟩ := hv
  have hx := B.exec
  have hb := B.bytes
  have hr := B.returns
  have hts := fun w h => atoms_spec (ws := w_Md_commit) B.pre w (List.mem_cons_of_mem _ h)
  have hown : s.vm.findClass R_Md = some m.cls := findClass_of_methodNamed B.named
  have hlocks := B.notSynchronized
  subst hsz
  have hD := hD0.self (sz := s.heap.size)
  generalize hAe : va_A ([(h0, zoMd mS mQ gK gV gH mL mo gM mch mA mP gI gR gT gF gS gE gC mB ml mz), (gK, zaI (cT 0) 1100 mk), (gV, zaI (cT 0) 1100 mv), (gH, zaZ (cT 2) 1100 mh)]) s.heap.size = A at hD ⊢
  have hA : ∀ q : Nat, s.heap.size ≤ q → A q := fun q h => by rw [← hAe]; exact Or.inr h
  have hS : va_S A s.heap s.heap [] := va_S.rf
  have hl := lv_entry ([.ref h0]) (n := 2) (Nat.le_of_ble_eq_true rfl)
  rw [lg_entry_eq]
  generalize (lg_sl ([.ref h0]) ++ List.replicate (2 - (lg_sl ([.ref h0])).length) Slot.unset).toArray = ls at hl ⊢
  have hl : lv_has ls 2 [(0, .ref h0)] := hl
  refine lv_aload_n hx hb d_Md_commit_0 rfl (lv_at hl 0 rfl) ?_
  refine va_get (D := (dC, dI)) (ci := 6) (v := .int (zb mo)) (C := R_Md) (T := F_Md) (N := 21) hx hb hts i_Md hown hK hP 0 rfl rfl 6 (by decide) (hts _ wd_569) (fun _ h9 => h9) rfl d_Md_commit_1 ?_
  refine zb_if_ne (tgt := 9) hx hb d_Md_commit_4 (by decide) (fun c_4 => ?_) (fun c_4 => absurd c_4 (by rw [ho]; decide))
  refine lv_aload_n hx hb d_Md_commit_9 rfl (lv_at hl 0 rfl) ?_
  refine zw_R (r := .int (nI ((mA + 4) * mS - mL))) (va_runV (As := []) (rest := []) ⟨hx, hb, hml, hown, hts⟩ (c_Md_room l dC dI cT h0 mS mQ gK gV gH mL mo gM mch mA mP gI gR gT gF gS gE gC mB ml mz (by first | omega | assumption)) (cwV 0 hts (zgV wd_638 wd_640 wp_8 wd_11 wd_641) rfl rfl rfl (by decide +kernel) ⟨Nat.le_of_ble_eq_true rfl, Nat.le_of_ble_eq_true rfl⟩) ⟨zPreR_blind, va_recv hK hP (ci := 6) (q0 := 0) rfl rfl, zp_R hK hE (zSub (X := [(h0, zoMd mS mQ gK gV gH mL mo gM mch mA mP gI gR gT gF gS gE gC mB ml mz), (gK, zaI (cT 0) 1100 mk), (gV, zaI (cT 0) 1100 mv), (gH, zaZ (cT 2) 1100 mh)]) (pl := []) hP [0] rfl)⟩ rfl rfl hl.1 rfl (lv_room (Nat.le_of_ble_eq_true rfl)) d_Md_commit_10 ⟨Nat.le_of_ble_eq_true rfl, Nat.le_of_ble_eq_true rfl⟩) ?_
  refine zn_if_ne (tgt := 19) hx hb (a := (mA + 4) * mS - mL) (by omega) d_Md_commit_13 (by decide) (fun c_13 => ?_) (fun c_13 => absurd c_13 (by omega))
  refine lv_aload_n hx hb d_Md_commit_19 rfl (lv_at hl 0 rfl) ?_
  refine lv_iconst (v := (-1)) hx hb d_Md_commit_20 (by decide) ?_
  refine lv_iconst (v := (nI 0)) hx hb d_Md_commit_21 (by decide) ?_
  refine lv_iconst (v := (nI 0)) hx hb d_Md_commit_22 (by decide) ?_
  refine W.eq (g2 := F0 m 23 ls [.int (zb false), .int (nI 0), .int (-1), .ref h0]) rfl ?_
  refine zw_Q (X := [(h0, zoMd mS mQ gK gV gH mL mo gM mch mA mP gI gR gT gF gS gE gC mB ml mz), (gK, zaI (cT 0) 1100 mk), (gV, zaI (cT 0) 1100 mv), (gH, zaZ (cT 2) 1100 mh)]) (pl := []) (va_runV (As := [.int (-1), .int (nI 0), .int (zb false)]) (rest := []) ⟨hx, hb, hml, hown, hts⟩ (c_Md_log l dC dI cT s.heap.size h0 mS mQ gK gV gH mL mo gM mch mA mP gI gR gT gF gS gE gC mB ml mz (-1) (nI 0) false mk mv mh (by first | omega | assumption)) (cwV 3 hts (zgV wd_642 wd_644 wp_9 wd_11 wd_645) rfl rfl rfl (by decide +kernel) ⟨Nat.le_of_ble_eq_true rfl, Nat.le_of_ble_eq_true rfl⟩) ⟨zPre_blind, va_recv hK hP (ci := 6) (q0 := 0) rfl rfl, zp_Q (X := [(h0, zoMd mS mQ gK gV gH mL mo gM mch mA mP gI gR gT gF gS gE gC mB ml mz), (gK, zaI (cT 0) 1100 mk), (gV, zaI (cT 0) 1100 mv), (gH, zaZ (cT 2) 1100 mh)]) (pl := []) hK hE hP hD [0, 1, 2, 3] (by decide) rfl⟩ rfl rfl hl.1 rfl (lv_room (Nat.le_of_ble_eq_true rfl)) d_Md_commit_23 ⟨Nat.le_of_ble_eq_true rfl, Nat.le_of_ble_eq_true rfl⟩) hP hD hS hA [0, 1, 2, 3] [] rfl (wr := []) rfl (by decide) (by decide) (fun zu => [.int (nI (mL + 1))]) (fun _ => rfl) (fun zu H locs hφ hP hD hS => ?_)
  have hP : va_P (dC, dI) vwCl ([(h0, zoMd mS mQ gK gV gH (mL + 1) mo gM mch mA mP gI gR gT gF gS gE gC mB ml mz), (gK, zaI (cT 0) 1100 (va_up mk (mL + 1) (-1))), (gV, zaI (cT 0) 1100 (va_up mv (mL + 1) (nI 0))), (gH, zaZ (cT 2) 1100 (va_up mh (mL + 1) false))]) H := hP
  have hD : va_D A ([(h0, zoMd mS mQ gK gV gH (mL + 1) mo gM mch mA mP gI gR gT gF gS gE gC mB ml mz), (gK, zaI (cT 0) 1100 (va_up mk (mL + 1) (-1))), (gV, zaI (cT 0) 1100 (va_up mv (mL + 1) (nI 0))), (gH, zaZ (cT 2) 1100 (va_up mh (mL + 1) false))]) := hD
  refine lv_istore_n (lv' := [(1, .int (nI (mL + 1))), (0, .ref h0)]) hx hb d_Md_commit_26 rfl hl (by decide) rfl (fun ls hl => ?_)
  refine lv_aload_n hx hb d_Md_commit_27 rfl (lv_at hl 1 rfl) ?_
  refine lv_iconst (v := (nI 0)) hx hb d_Md_commit_28 (by decide) ?_
  refine W.eq (g2 := F0 m 29 ls [.int (zb false), .ref h0]) rfl ?_
  refine va_put (D := (dC, dI)) (ci := 6) (v := .int (zb false)) (ty := .boolean) (C := R_Md) (T := F_Md) (N := 21) hx hb hts i_Md t_Md t_Md_ok n_Md hown hK hP hD hS 0 rfl rfl 6 (by decide) (hts _ wd_569) (fun _ h9 => h9) rfl (by decide +kernel) (zb_narrow _) (zb_fits _) (Nat.le_of_ble_eq_true rfl) d_Md_commit_29 (fun H locs hP hD hS => ?_)
  have hP : va_P (dC, dI) vwCl ([(h0, zoMd mS mQ gK gV gH (mL + 1) false gM mch mA mP gI gR gT gF gS gE gC mB ml mz), (gK, zaI (cT 0) 1100 (va_up mk (mL + 1) (-1))), (gV, zaI (cT 0) 1100 (va_up mv (mL + 1) (nI 0))), (gH, zaZ (cT 2) 1100 (va_up mh (mL + 1) false))]) H := hP
  have hD : va_D A ([(h0, zoMd mS mQ gK gV gH (mL + 1) false gM mch mA mP gI gR gT gF gS gE gC mB ml mz), (gK, zaI (cT 0) 1100 (va_up mk (mL + 1) (-1))), (gV, zaI (cT 0) 1100 (va_up mv (mL + 1) (nI 0))), (gH, zaZ (cT 2) 1100 (va_up mh (mL + 1) false))]) := hD
  refine lv_aload_n hx hb d_Md_commit_32 rfl (lv_at hl 1 rfl) ?_
  refine lv_iconst (v := (nI 0)) hx hb d_Md_commit_33 (by decide) ?_
  refine va_put (D := (dC, dI)) (ci := 6) (v := .int (nI 0)) (ty := .int) (C := R_Md) (T := F_Md) (N := 21) hx hb hts i_Md t_Md t_Md_ok n_Md hown hK hP hD hS 0 rfl rfl 8 (by decide) (hts _ wd_571) (fun _ h9 => h9) rfl (by decide +kernel) rfl rfl (Nat.le_of_ble_eq_true rfl) d_Md_commit_34 (fun H locs hP hD hS => ?_)
  have hP : va_P (dC, dI) vwCl ([(h0, zoMd mS mQ gK gV gH (mL + 1) false gM 0 mA mP gI gR gT gF gS gE gC mB ml mz), (gK, zaI (cT 0) 1100 (va_up mk (mL + 1) (-1))), (gV, zaI (cT 0) 1100 (va_up mv (mL + 1) (nI 0))), (gH, zaZ (cT 2) 1100 (va_up mh (mL + 1) false))]) H := hP
  have hD : va_D A ([(h0, zoMd mS mQ gK gV gH (mL + 1) false gM 0 mA mP gI gR gT gF gS gE gC mB ml mz), (gK, zaI (cT 0) 1100 (va_up mk (mL + 1) (-1))), (gV, zaI (cT 0) 1100 (va_up mv (mL + 1) (nI 0))), (gH, zaZ (cT 2) 1100 (va_up mh (mL + 1) false))]) := hD
  refine lv_aload_n hx hb d_Md_commit_37 rfl (lv_at hl 1 rfl) ?_
  refine zw_R (r := .int (nI (zcom (va_up mk (mL + 1) (-1)) (mL + 1)))) (va_runV (As := []) (rest := []) ⟨hx, hb, hml, hown, hts⟩ (c_Md_commits l dC dI cT h0 mS mQ gK gV gH (mL + 1) false gM 0 mA mP gI gR gT gF gS gE gC mB ml mz (va_up mk (mL + 1) (-1)) (by first | omega | assumption)) (cwV 0 hts (zgV wd_650 wd_652 wp_10 wd_11 wd_653) rfl rfl rfl (by decide +kernel) ⟨Nat.le_of_ble_eq_true rfl, Nat.le_of_ble_eq_true rfl⟩) ⟨zPreR_blind, va_recv hK hP (ci := 6) (q0 := 0) rfl rfl, zp_R hK hE (zSub (X := [(h0, zoMd mS mQ gK gV gH (mL + 1) false gM 0 mA mP gI gR gT gF gS gE gC mB ml mz), (gK, zaI (cT 0) 1100 (va_up mk (mL + 1) (-1))), (gV, zaI (cT 0) 1100 (va_up mv (mL + 1) (nI 0))), (gH, zaZ (cT 2) 1100 (va_up mh (mL + 1) false))]) (pl := []) hP [0, 1] rfl)⟩ rfl rfl hl.1 rfl (lv_room (Nat.le_of_ble_eq_true rfl)) d_Md_commit_38 ⟨Nat.le_of_ble_eq_true rfl, Nat.le_of_ble_eq_true rfl⟩) ?_
  have hP9 := hP.sub (ws' := [(h0, zoMd mS mQ gK gV gH (mL + 1) false gM 0 mA mP gI gR gT gF gS gE gC mB ml mz), (gK, zaI (cT 0) 1100 (va_up mk (mL + 1) (-1))), (gV, zaI (cT 0) 1100 (va_up mv (mL + 1) (nI 0))), (gH, zaZ (cT 2) 1100 (va_up mh (mL + 1) false))]) [0, 1, 2, 3] rfl
  have hD9 := hD.sub (ws' := [(h0, zoMd mS mQ gK gV gH (mL + 1) false gM 0 mA mP gI gR gT gF gS gE gC mB ml mz), (gK, zaI (cT 0) 1100 (va_up mk (mL + 1) (-1))), (gV, zaI (cT 0) 1100 (va_up mv (mL + 1) (nI 0))), (gH, zaZ (cT 2) 1100 (va_up mh (mL + 1) false))]) [0, 1, 2, 3] (by decide) rfl
  exact W.iret hx hb hr (fun t ht hW => ⟨⟨(), trivial, rfl, by rw [ht]; exact hP9, hD9⟩, hS.F ht⟩) hS.2.2 d_Md_commit_41
set_option maxHeartbeats 4000000 in
set_option maxRecDepth 100000 in
theorem c_Md_abort_ref (l : Launch) (dC : Nat → ClassId) (dI : Nat → Nat → Nat) (cT : Nat → ClassId) (sz : Nat) (h0 : Nat) (mS : Nat) (mQ : Nat) (gK : Nat) (gV : Nat) (gH : Nat) (mL : Nat) (mo : Bool) (gM : Nat) (mch : Nat) (mA : Nat) (mP : Nat) (gI : Nat) (gR : Nat) (gT : Nat) (gF : Nat) (gS : Nat) (gE : Nat) (gC : Nat) (mB : Nat) (ml : Int32) (mz : Int32) (ho : mo = false) : Met l y_Md_abort w_Md_abort ({ frames := 0, cells := 0, slots := 0, locals := 0 } : Room) (zPre (dC, dI) vwCl (zT cT) [.ref h0] ([(h0, zoMd mS mQ gK gV gH mL mo gM mch mA mP gI gR gT gF gS gE gC mB ml mz)]) sz) (zQ (dC, dI) vwCl (S := Unit) (fun zu => True) (fun zu => some (.int (-1))) (fun zu => [(h0, zoMd mS mQ gK gV gH mL mo gM mch mA mP gI gR gT gF gS gE gC mB ml mz)]) (va_A ([(h0, zoMd mS mQ gK gV gH mL mo gM mch mA mP gI gR gT gF gS gE gC mB ml mz)]) sz)) 0 0 (va_A ([(h0, zoMd mS mQ gK gV gH mL mo gM mch mA mP gI gR gT gF gS gE gC mB ml mz)]) sz) := by
  refine Met.ofW (cc := b_Md_abort) (maxL := 2) (ret := (some .int)) (by decide) rfl ?_
  intro p e s m args below meth c s₁ B hml hv
  obtain ⟨rfl, hsz, hP, hK, hD0, hE⟩ := hv
  have hx := B.exec
  have hb := B.bytes
  have hr := B.returns
  have hts := fun w h => atoms_spec (ws := w_Md_abort) B.pre w (List.mem_cons_of_mem _ h)
  have hown : s.vm.findClass R_Md = some m.cls := findClass_of_methodNamed B.named
  have hlocks := B.notSynchronized
  subst hsz
  have hD := hD0.self (sz := s.heap.size)
  generalize hAe : va_A ([(h0, zoMd mS mQ gK gV gH mL mo gM mch mA mP gI gR gT gF gS gE gC mB ml mz)]) s.heap.size = A at hD ⊢
  have hA : ∀ q : Nat, s.heap.size ≤ q → A q := fun q h => by rw [← hAe]; exact Or.inr h
  have hS : va_S A s.heap s.heap [] := va_S.rf
  have hl := lv_entry ([.ref h0]) (n := 2) (Nat.le_of_ble_eq_true rfl)
  rw [lg_entry_eq]
  generalize (lg_sl ([.ref h0]) ++ List.replicate (2 - (lg_sl ([.ref h0])).length) Slot.unset).toArray = ls at hl ⊢
  have hl : lv_has ls 2 [(0, .ref h0)] := hl
  refine lv_aload_n hx hb d_Md_abort_0 rfl (lv_at hl 0 rfl) ?_
  refine va_get (D := (dC, dI)) (ci := 6) (v := .int (zb mo)) (C := R_Md) (T := F_Md) (N := 21) hx hb hts i_Md hown hK hP 0 rfl rfl 6 (by decide) (hts _ wd_569) (fun _ h9 => h9) rfl d_Md_abort_1 ?_
  refine zb_if_ne (tgt := 9) hx hb d_Md_abort_4 (by decide) (fun c_4 => absurd c_4 (by rw [ho]; decide)) (fun c_4 => ?_)
  refine lv_iconst (v := (-1)) hx hb d_Md_abort_7 (by decide) ?_
  have hP9 := hP.sub (ws' := [(h0, zoMd mS mQ gK gV gH mL mo gM mch mA mP gI gR gT gF gS gE gC mB ml mz)]) [0] rfl
  have hD9 := hD.sub (ws' := [(h0, zoMd mS mQ gK gV gH mL mo gM mch mA mP gI gR gT gF gS gE gC mB ml mz)]) [0] (by decide) rfl
  exact W.iret hx hb hr (fun t ht hW => ⟨⟨(), trivial, rfl, by rw [ht]; exact hP9, hD9⟩, hS.F ht⟩) hS.2.2 d_Md_abort_8
set_option maxHeartbeats 4000000 in
set_option maxRecDepth 100000 in
theorem c_Md_abort_ok (l : Launch) (dC : Nat → ClassId) (dI : Nat → Nat → Nat) (cT : Nat → ClassId) (sz : Nat) (h0 : Nat) (mS : Nat) (mQ : Nat) (gK : Nat) (gV : Nat) (gH : Nat) (mL : Nat) (mo : Bool) (gM : Nat) (mch : Nat) (mA : Nat) (mP : Nat) (gI : Nat) (gR : Nat) (gT : Nat) (gF : Nat) (gS : Nat) (gE : Nat) (gC : Nat) (mB : Nat) (ml : Int32) (mz : Int32) (mk : Nat → Int32) (mv : Nat → Int32) (mh : Nat → Bool) (mm : Nat → Nat) (hch : mch ≤ 4) (hLu : mL + mch + 1 ≤ 1000) (hmm : ∀ j, j < mch → 1 ≤ mm j ∧ mm j ≤ mL) (ho : mo = true) : Met l y_Md_abort w_Md_abort ({ frames := 2, cells := 0, slots := 0, locals := 47 } : Room) (zPre (dC, dI) vwCl (zT cT) [.ref h0] ([(h0, zoMd mS mQ gK gV gH mL mo gM mch mA mP gI gR gT gF gS gE gC mB ml mz), (gK, zaI (cT 0) 1100 mk), (gV, zaI (cT 0) 1100 mv), (gH, zaZ (cT 2) 1100 mh), (gM, zaN (cT 0) 4 mm)]) sz) (zQ (dC, dI) vwCl (S := Unit) (fun zu => True) (fun zu => some (.int (nI mch))) (fun zu => [(h0, zoMd mS mQ gK gV gH (zuL mL mch) false gM 0 mA mP gI gR gT gF gS gE gC mB ml mz), (gK, zaI (cT 0) 1100 (zvK mk mv mh mm mL mch)), (gV, zaI (cT 0) 1100 (zvV mk mv mh mm mL mch)), (gH, zaZ (cT 2) 1100 (zvH mk mv mh mm mL mch)), (gM, zaN (cT 0) 4 mm)]) (va_A ([(h0, zoMd mS mQ gK gV gH mL mo gM mch mA mP gI gR gT gF gS gE gC mB ml mz), (gK, zaI (cT 0) 1100 mk), (gV, zaI (cT 0) 1100 mv), (gH, zaZ (cT 2) 1100 mh), (gM, zaN (cT 0) 4 mm)]) sz)) 0 0 (va_A ([(h0, zoMd mS mQ gK gV gH mL mo gM mch mA mP gI gR gT gF gS gE gC mB ml mz), (gK, zaI (cT 0) 1100 mk), (gV, zaI (cT 0) 1100 mv), (gH, zaZ (cT 2) 1100 mh), (gM, zaN (cT 0) 4 mm)]) sz) := by
  refine Met.ofW (cc := b_Md_abort) (maxL := 2) (ret := (some .int)) (by decide) rfl ?_
  intro p e s m args below meth c s₁ B hml hv
  obtain ⟨rfl, hsz, hP, hK, hD0, hE⟩ := hv
  have hx := B.exec
  have hb := B.bytes
  have hr := B.returns
  have hts := fun w h => atoms_spec (ws := w_Md_abort) B.pre w (List.mem_cons_of_mem _ h)
  have hown : s.vm.findClass R_Md = some m.cls := findClass_of_methodNamed B.named
  have hlocks := B.notSynchronized
  subst hsz
  have hD := hD0.self (sz := s.heap.size)
  generalize hAe : va_A ([(h0, zoMd mS mQ gK gV gH mL mo gM mch mA mP gI gR gT gF gS gE gC mB ml mz), (gK, zaI (cT 0) 1100 mk), (gV, zaI (cT 0) 1100 mv), (gH, zaZ (cT 2) 1100 mh), (gM, zaN (cT 0) 4 mm)]) s.heap.size = A at hD ⊢
  have hA : ∀ q : Nat, s.heap.size ≤ q → A q := fun q h => by rw [← hAe]; exact Or.inr h
  have hS : va_S A s.heap s.heap [] := va_S.rf
  have hl := lv_entry ([.ref h0]) (n := 2) (Nat.le_of_ble_eq_true rfl)
  rw [lg_entry_eq]
  generalize (lg_sl ([.ref h0]) ++ List.replicate (2 - (lg_sl ([.ref h0])).length) Slot.unset).toArray = ls at hl ⊢
  have hl : lv_has ls 2 [(0, .ref h0)] := hl
  refine lv_aload_n hx hb d_Md_abort_0 rfl (lv_at hl 0 rfl) ?_
  refine va_get (D := (dC, dI)) (ci := 6) (v := .int (zb mo)) (C := R_Md) (T := F_Md) (N := 21) hx hb hts i_Md hown hK hP 0 rfl rfl 6 (by decide) (hts _ wd_569) (fun _ h9 => h9) rfl d_Md_abort_1 ?_
  refine zb_if_ne (tgt := 9) hx hb d_Md_abort_4 (by decide) (fun c_4 => ?_) (fun c_4 => absurd c_4 (by rw [ho]; decide))
  refine lv_aload_n hx hb d_Md_abort_9 rfl (lv_at hl 0 rfl) ?_
  refine va_get (D := (dC, dI)) (ci := 6) (v := .int (nI mch)) (C := R_Md) (T := F_Md) (N := 21) hx hb hts i_Md hown hK hP 0 rfl rfl 8 (by decide) (hts _ wd_571) (fun _ h9 => h9) rfl d_Md_abort_10 ?_
  refine lv_istore_n (lv' := [(1, .int (nI mch)), (0, .ref h0)]) hx hb d_Md_abort_13 rfl hl (by decide) rfl (fun ls hl => ?_)
  refine lv_aload_n hx hb d_Md_abort_14 rfl (lv_at hl 1 rfl) ?_
  refine zw_Q (X := [(h0, zoMd mS mQ gK gV gH mL mo gM mch mA mP gI gR gT gF gS gE gC mB ml mz), (gK, zaI (cT 0) 1100 mk), (gV, zaI (cT 0) 1100 mv), (gH, zaZ (cT 2) 1100 mh), (gM, zaN (cT 0) 4 mm)]) (pl := []) (va_runV (As := []) (rest := []) ⟨hx, hb, hml, hown, hts⟩ (c_Md_undo l dC dI cT s.heap.size h0 mS mQ gK gV gH mL mo gM mch mA mP gI gR gT gF gS gE gC mB ml mz mk mv mh mm (by first | omega | assumption) (by first | omega | assumption) (by first | omega | assumption)) (cwV 0 hts (zgV wd_658 wd_660 wp_11 wd_11 wd_661) rfl rfl rfl (by decide +kernel) ⟨Nat.le_of_ble_eq_true rfl, Nat.le_of_ble_eq_true rfl⟩) ⟨zPre_blind, va_recv hK hP (ci := 6) (q0 := 0) rfl rfl, zp_Q (X := [(h0, zoMd mS mQ gK gV gH mL mo gM mch mA mP gI gR gT gF gS gE gC mB ml mz), (gK, zaI (cT 0) 1100 mk), (gV, zaI (cT 0) 1100 mv), (gH, zaZ (cT 2) 1100 mh), (gM, zaN (cT 0) 4 mm)]) (pl := []) hK hE hP hD [0, 1, 2, 3, 4] (by decide) rfl⟩ rfl rfl hl.1 rfl (lv_room (Nat.le_of_ble_eq_true rfl)) d_Md_abort_15 ⟨Nat.le_of_ble_eq_true rfl, Nat.le_of_ble_eq_true rfl⟩) hP hD hS hA [0, 1, 2, 3, 4] [] rfl (wr := []) rfl (by decide) (by decide) (fun zu => []) (fun _ => rfl) (fun zu H locs hφ hP hD hS => ?_)
  have hP : va_P (dC, dI) vwCl ([(h0, zoMd mS mQ gK gV gH (zuL mL mch) false gM 0 mA mP gI gR gT gF gS gE gC mB ml mz), (gK, zaI (cT 0) 1100 (zvK mk mv mh mm mL mch)), (gV, zaI (cT 0) 1100 (zvV mk mv mh mm mL mch)), (gH, zaZ (cT 2) 1100 (zvH mk mv mh mm mL mch)), (gM, zaN (cT 0) 4 mm)]) H := hP
  have hD : va_D A ([(h0, zoMd mS mQ gK gV gH (zuL mL mch) false gM 0 mA mP gI gR gT gF gS gE gC mB ml mz), (gK, zaI (cT 0) 1100 (zvK mk mv mh mm mL mch)), (gV, zaI (cT 0) 1100 (zvV mk mv mh mm mL mch)), (gH, zaZ (cT 2) 1100 (zvH mk mv mh mm mL mch)), (gM, zaN (cT 0) 4 mm)]) := hD
  refine lv_iload_n hx hb d_Md_abort_18 rfl (lv_at hl 0 rfl) ?_
  have hP9 := hP.sub (ws' := [(h0, zoMd mS mQ gK gV gH (zuL mL mch) false gM 0 mA mP gI gR gT gF gS gE gC mB ml mz), (gK, zaI (cT 0) 1100 (zvK mk mv mh mm mL mch)), (gV, zaI (cT 0) 1100 (zvV mk mv mh mm mL mch)), (gH, zaZ (cT 2) 1100 (zvH mk mv mh mm mL mch)), (gM, zaN (cT 0) 4 mm)]) [0, 1, 2, 3, 4] rfl
  have hD9 := hD.sub (ws' := [(h0, zoMd mS mQ gK gV gH (zuL mL mch) false gM 0 mA mP gI gR gT gF gS gE gC mB ml mz), (gK, zaI (cT 0) 1100 (zvK mk mv mh mm mL mch)), (gV, zaI (cT 0) 1100 (zvV mk mv mh mm mL mch)), (gH, zaZ (cT 2) 1100 (zvH mk mv mh mm mL mch)), (gM, zaN (cT 0) 4 mm)]) [0, 1, 2, 3, 4] (by decide) rfl
  exact W.iret hx hb hr (fun t ht hW => ⟨⟨(), trivial, rfl, by rw [ht]; exact hP9, hD9⟩, hS.F ht⟩) hS.2.2 d_Md_abort_19
set_option maxHeartbeats 4000000 in
set_option maxRecDepth 100000 in
theorem c_Md_get (l : Launch) (dC : Nat → ClassId) (dI : Nat → Nat → Nat) (cT : Nat → ClassId) (h0 : Nat) (mS : Nat) (mQ : Nat) (gK : Nat) (gV : Nat) (gH : Nat) (mL : Nat) (mo : Bool) (gM : Nat) (mch : Nat) (mA : Nat) (mP : Nat) (gI : Nat) (gR : Nat) (gT : Nat) (gF : Nat) (gS : Nat) (gE : Nat) (gC : Nat) (mB : Nat) (ml : Int32) (mz : Int32) (k : Int32) (mk : Nat → Int32) (mv : Nat → Int32) (mh : Nat → Bool) (hL : mL ≤ 1000) : Met l y_Md_get w_Md_get ({ frames := 1, cells := 0, slots := 0, locals := 23 } : Room) (zPreR (dC, dI) vwCl (zT cT) [.ref h0, .int k] ([(h0, zoMd mS mQ gK gV gH mL mo gM mch mA mP gI gR gT gF gS gE gC mB ml mz), (gK, zaI (cT 0) 1100 mk), (gV, zaI (cT 0) 1100 mv), (gH, zaZ (cT 2) 1100 mh)])) (k2_QcV (.long (if isIn k 32 = true then zaf mk mv mh k mL else (-1000000000000)))) 0 0 (fun _ => False) := by
  refine Met.ofW (cc := b_Md_get) (maxL := 2) (ret := (some .long)) (by decide) rfl ?_
  intro p e s m args below meth c s₁ B hml hv
  obtain ⟨rfl, hP, hK, hE⟩ := hv
  have hx := B.exec
  have hb := B.bytes
  have hr := B.returns
  have hts := fun w h => atoms_spec (ws := w_Md_get) B.pre w (List.mem_cons_of_mem _ h)
  have hown : s.vm.findClass R_Md = some m.cls := findClass_of_methodNamed B.named
  have hlocks := B.notSynchronized
  have hl := lv_entry ([.ref h0, .int k]) (n := 2) (Nat.le_of_ble_eq_true rfl)
  rw [lg_entry_eq]
  generalize (lg_sl ([.ref h0, .int k]) ++ List.replicate (2 - (lg_sl ([.ref h0, .int k])).length) Slot.unset).toArray = ls at hl ⊢
  have hl : lv_has ls 2 [(0, .ref h0), (1, .int k)] := hl
  refine lv_iload_n hx hb d_Md_get_0 rfl (lv_at hl 1 rfl) ?_
  refine lv_bipush (v := (nI 32)) hx hb d_Md_get_1 (by decide) ?_
  refine zw_R (r := .int (zb (isIn k 32))) (va_runS (As := [.int k, .int (nI 32)]) (rest := []) ⟨hx, hb, hml, hown, hts⟩ (c_Md_in l dC dI cT k 32) (va_cwS 2 hts (zgS wd_635 wd_636 wd_11 wd_637) rfl rfl rfl (by decide +kernel) ⟨Nat.le_of_ble_eq_true rfl, Nat.le_of_ble_eq_true rfl⟩) ⟨zPreR_blind, zp_R hK hE (zSub (X := [(h0, zoMd mS mQ gK gV gH mL mo gM mch mA mP gI gR gT gF gS gE gC mB ml mz), (gK, zaI (cT 0) 1100 mk), (gV, zaI (cT 0) 1100 mv), (gH, zaZ (cT 2) 1100 mh)]) (pl := []) hP [] rfl)⟩ rfl rfl hl.1 rfl (lv_room (Nat.le_of_ble_eq_true rfl)) d_Md_get_3 ⟨Nat.le_of_ble_eq_true rfl, Nat.le_of_ble_eq_true rfl⟩) ?_
  refine zb_if_eq (tgt := 21) hx hb d_Md_get_6 (by decide) (fun c_6 => ?_) (fun c_6 => ?_)
  · refine lv_ldc2 (v := (-1000000000000)) hx hb hown (hts _ wd_671) d_Md_get_21 ?_
    exact W.lret hx hb hr (fun t ht hW => ⟨by rw [if_neg (by rw [c_6]; decide)], ht⟩) (fun q h => by cases h) d_Md_get_24
  · refine lv_aload_n hx hb d_Md_get_9 rfl (lv_at hl 0 rfl) ?_
    refine lv_aload_n hx hb d_Md_get_10 rfl (lv_at hl 0 rfl) ?_
    refine va_get (D := (dC, dI)) (ci := 6) (v := .int (nI mL)) (C := R_Md) (T := F_Md) (N := 21) hx hb hts i_Md hown hK hP 0 rfl rfl 5 (by decide) (hts _ wd_568) (fun _ h9 => h9) rfl d_Md_get_11 ?_
    refine lv_iload_n hx hb d_Md_get_14 rfl (lv_at hl 1 rfl) ?_
    refine zw_R (r := .long (zaf mk mv mh k mL)) (va_runV (As := [.int (nI mL), .int k]) (rest := []) ⟨hx, hb, hml, hown, hts⟩ (c_Md_after l dC dI cT h0 mS mQ gK gV gH mL mo gM mch mA mP gI gR gT gF gS gE gC mB ml mz mL k mk mv mh (by first | omega | assumption)) (cwV 2 hts (zgV wd_662 wd_664 wp_12 wd_11 wd_665) rfl rfl rfl (by decide +kernel) ⟨Nat.le_of_ble_eq_true rfl, Nat.le_of_ble_eq_true rfl⟩) ⟨zPreR_blind, va_recv hK hP (ci := 6) (q0 := 0) rfl rfl, zp_R hK hE (zSub (X := [(h0, zoMd mS mQ gK gV gH mL mo gM mch mA mP gI gR gT gF gS gE gC mB ml mz), (gK, zaI (cT 0) 1100 mk), (gV, zaI (cT 0) 1100 mv), (gH, zaZ (cT 2) 1100 mh)]) (pl := []) hP [0, 1, 2, 3] rfl)⟩ rfl rfl hl.1 rfl (lv_room (Nat.le_of_ble_eq_true rfl)) d_Md_get_15 ⟨Nat.le_of_ble_eq_true rfl, Nat.le_of_ble_eq_true rfl⟩) ?_
    refine lv_goto (tgt := 24) hx hb d_Md_get_18 (by decide) ?_
    exact W.lret hx hb hr (fun t ht hW => ⟨by rw [if_pos c_6], ht⟩) (fun q h => by cases h) d_Md_get_24
set_option maxHeartbeats 4000000 in
set_option maxRecDepth 100000 in
theorem c_Md_write_ref (l : Launch) (dC : Nat → ClassId) (dI : Nat → Nat → Nat) (cT : Nat → ClassId) (sz : Nat) (h0 : Nat) (mS : Nat) (mQ : Nat) (gK : Nat) (gV : Nat) (gH : Nat) (mL : Nat) (mo : Bool) (gM : Nat) (mch : Nat) (mA : Nat) (mP : Nat) (gI : Nat) (gR : Nat) (gT : Nat) (gF : Nat) (gS : Nat) (gE : Nat) (gC : Nat) (mB : Nat) (ml : Int32) (mz : Int32) (k : Int32) (hno : isIn k 8 = false) : Met l y_Md_write w_Md_write ({ frames := 1, cells := 0, slots := 0, locals := 21 } : Room) (zPre (dC, dI) vwCl (zT cT) [.ref h0, .int k] ([(h0, zoMd mS mQ gK gV gH mL mo gM mch mA mP gI gR gT gF gS gE gC mB ml mz)]) sz) (zQ (dC, dI) vwCl (S := Unit) (fun zu => True) (fun zu => some (.int (-1))) (fun zu => [(h0, zoMd mS mQ gK gV gH mL mo gM mch mA mP gI gR gT gF gS gE gC mB ml mz)]) (va_A ([(h0, zoMd mS mQ gK gV gH mL mo gM mch mA mP gI gR gT gF gS gE gC mB ml mz)]) sz)) 0 0 (va_A ([(h0, zoMd mS mQ gK gV gH mL mo gM mch mA mP gI gR gT gF gS gE gC mB ml mz)]) sz) := by
  refine Met.ofW (cc := b_Md_write) (maxL := 2) (ret := (some .int)) (by decide) rfl ?_
  intro p e s m args below meth c s₁ B hml hv
  obtain ⟨rfl, hsz, hP, hK, hD0, hE⟩ := hv
  have hx := B.exec
  have hb := B.bytes
  have hr := B.returns
  have hts := fun w h => atoms_spec (ws := w_Md_write) B.pre w (List.mem_cons_of_mem _ h)
  have hown : s.vm.findClass R_Md = some m.cls := findClass_of_methodNamed B.named
  have hlocks := B.notSynchronized
  subst hsz
  have hD := hD0.self (sz := s.heap.size)
  generalize hAe : va_A ([(h0, zoMd mS mQ gK gV gH mL mo gM mch mA mP gI gR gT gF gS gE gC mB ml mz)]) s.heap.size = A at hD ⊢
  have hA : ∀ q : Nat, s.heap.size ≤ q → A q := fun q h => by rw [← hAe]; exact Or.inr h
  have hS : va_S A s.heap s.heap [] := va_S.rf
  have hl := lv_entry ([.ref h0, .int k]) (n := 2) (Nat.le_of_ble_eq_true rfl)
  rw [lg_entry_eq]
  generalize (lg_sl ([.ref h0, .int k]) ++ List.replicate (2 - (lg_sl ([.ref h0, .int k])).length) Slot.unset).toArray = ls at hl ⊢
  have hl : lv_has ls 2 [(0, .ref h0), (1, .int k)] := hl
  refine lv_iload_n hx hb d_Md_write_0 rfl (lv_at hl 1 rfl) ?_
  refine lv_bipush (v := (nI 8)) hx hb d_Md_write_1 (by decide) ?_
  refine zw_R (r := .int (zb (isIn k 8))) (va_runS (As := [.int k, .int (nI 8)]) (rest := []) ⟨hx, hb, hml, hown, hts⟩ (c_Md_in l dC dI cT k 8) (va_cwS 2 hts (zgS wd_635 wd_636 wd_11 wd_637) rfl rfl rfl (by decide +kernel) ⟨Nat.le_of_ble_eq_true rfl, Nat.le_of_ble_eq_true rfl⟩) ⟨zPreR_blind, zp_R hK hE (zSub (X := [(h0, zoMd mS mQ gK gV gH mL mo gM mch mA mP gI gR gT gF gS gE gC mB ml mz)]) (pl := []) hP [] rfl)⟩ rfl rfl hl.1 rfl (lv_room (Nat.le_of_ble_eq_true rfl)) d_Md_write_3 ⟨Nat.le_of_ble_eq_true rfl, Nat.le_of_ble_eq_true rfl⟩) ?_
  refine zb_if_ne (tgt := 11) hx hb d_Md_write_6 (by decide) (fun c_6 => absurd c_6 (by rw [hno]; decide)) (fun c_6 => ?_)
  refine lv_iconst (v := (-1)) hx hb d_Md_write_9 (by decide) ?_
  have hP9 := hP.sub (ws' := [(h0, zoMd mS mQ gK gV gH mL mo gM mch mA mP gI gR gT gF gS gE gC mB ml mz)]) [0] rfl
  have hD9 := hD.sub (ws' := [(h0, zoMd mS mQ gK gV gH mL mo gM mch mA mP gI gR gT gF gS gE gC mB ml mz)]) [0] (by decide) rfl
  exact W.iret hx hb hr (fun t ht hW => ⟨⟨(), trivial, rfl, by rw [ht]; exact hP9, hD9⟩, hS.F ht⟩) hS.2.2 d_Md_write_10
set_option maxHeartbeats 4000000 in
set_option maxRecDepth 100000 in
theorem c_Md_write_ok (l : Launch) (dC : Nat → ClassId) (dI : Nat → Nat → Nat) (cT : Nat → ClassId) (sz : Nat) (h0 : Nat) (mS : Nat) (mQ : Nat) (gK : Nat) (gV : Nat) (gH : Nat) (mL : Nat) (mo : Bool) (gM : Nat) (mch : Nat) (mA : Nat) (mP : Nat) (gI : Nat) (gR : Nat) (gT : Nat) (gF : Nat) (gS : Nat) (gE : Nat) (gC : Nat) (mB : Nat) (ml : Int32) (mz : Int32) (pg : Nat) (mk : Nat → Int32) (mi : Nat → Nat) (mr : Nat → Bool) (hL : mL ≤ 1000) (hkey : ∀ i, 1 ≤ i → i ≤ mL → ¬ mk i < 0 → isIn (mk i) 32 = true) (hp : pg < 8) : Met l y_Md_write w_Md_write ({ frames := 1, cells := 0, slots := 0, locals := 22 } : Room) (zPre (dC, dI) vwCl (zT cT) [.ref h0, .int (nI pg)] ([(h0, zoMd mS mQ gK gV gH mL mo gM mch mA mP gI gR gT gF gS gE gC mB ml mz), (gK, zaI (cT 0) 1100 mk), (gI, zaN (cT 0) 8 mi), (gR, zaZ (cT 2) 8 mr)]) sz) (zQ (dC, dI) vwCl (S := Unit) (fun zu => True) (fun zu => some (.int (nI (znum mk pg mL)))) (fun zu => [(h0, zoMd mS mQ gK gV gH mL mo gM mch mA mP gI gR gT gF gS gE gC mB ml mz), (gK, zaI (cT 0) 1100 mk), (gI, zaN (cT 0) 8 (va_up mi pg (znum mk pg mL))), (gR, zaZ (cT 2) 8 (va_up mr pg true))]) (va_A ([(h0, zoMd mS mQ gK gV gH mL mo gM mch mA mP gI gR gT gF gS gE gC mB ml mz), (gK, zaI (cT 0) 1100 mk), (gI, zaN (cT 0) 8 mi), (gR, zaZ (cT 2) 8 mr)]) sz)) 0 0 (va_A ([(h0, zoMd mS mQ gK gV gH mL mo gM mch mA mP gI gR gT gF gS gE gC mB ml mz), (gK, zaI (cT 0) 1100 mk), (gI, zaN (cT 0) 8 mi), (gR, zaZ (cT 2) 8 mr)]) sz) := by
  refine Met.ofW (cc := b_Md_write) (maxL := 2) (ret := (some .int)) (by decide) rfl ?_
  intro p e s m args below meth c s₁ B hml hv
  obtain ⟨rfl, hsz, hP, hK, hD0, hE⟩ := hv
  have hx := B.exec
  have hb := B.bytes
  have hr := B.returns
  have hts := fun w h => atoms_spec (ws := w_Md_write) B.pre w (List.mem_cons_of_mem _ h)
  have hown : s.vm.findClass R_Md = some m.cls := findClass_of_methodNamed B.named
  have hlocks := B.notSynchronized
  subst hsz
  have hD := hD0.self (sz := s.heap.size)
  generalize hAe : va_A ([(h0, zoMd mS mQ gK gV gH mL mo gM mch mA mP gI gR gT gF gS gE gC mB ml mz), (gK, zaI (cT 0) 1100 mk), (gI, zaN (cT 0) 8 mi), (gR, zaZ (cT 2) 8 mr)]) s.heap.size = A at hD ⊢
  have hA : ∀ q : Nat, s.heap.size ≤ q → A q := fun q h => by rw [← hAe]; exact Or.inr h
  have hS : va_S A s.heap s.heap [] := va_S.rf
  have hl := lv_entry ([.ref h0, .int (nI pg)]) (n := 2) (Nat.le_of_ble_eq_true rfl)
  rw [lg_entry_eq]
  generalize (lg_sl ([.ref h0, .int (nI pg)]) ++ List.replicate (2 - (lg_sl ([.ref h0, .int (nI pg)])).length) Slot.unset).toArray = ls at hl ⊢
  have hl : lv_has ls 2 [(0, .ref h0), (1, .int (nI pg))] := hl
  refine lv_iload_n hx hb d_Md_write_0 rfl (lv_at hl 1 rfl) ?_
  refine lv_bipush (v := (nI 8)) hx hb d_Md_write_1 (by decide) ?_
  refine zw_R (r := .int (zb (isIn (nI pg) 8))) (va_runS (As := [.int (nI pg), .int (nI 8)]) (rest := []) ⟨hx, hb, hml, hown, hts⟩ (c_Md_in l dC dI cT (nI pg) 8) (va_cwS 2 hts (zgS wd_635 wd_636 wd_11 wd_637) rfl rfl rfl (by decide +kernel) ⟨Nat.le_of_ble_eq_true rfl, Nat.le_of_ble_eq_true rfl⟩) ⟨zPreR_blind, zp_R hK hE (zSub (X := [(h0, zoMd mS mQ gK gV gH mL mo gM mch mA mP gI gR gT gF gS gE gC mB ml mz), (gK, zaI (cT 0) 1100 mk), (gI, zaN (cT 0) 8 mi), (gR, zaZ (cT 2) 8 mr)]) (pl := []) hP [] rfl)⟩ rfl rfl hl.1 rfl (lv_room (Nat.le_of_ble_eq_true rfl)) d_Md_write_3 ⟨Nat.le_of_ble_eq_true rfl, Nat.le_of_ble_eq_true rfl⟩) ?_
  refine zb_if_ne (tgt := 11) hx hb d_Md_write_6 (by decide) (fun c_6 => ?_) (fun c_6 => absurd c_6 (by rw [isIn_nI (by decide) hp]; decide))
  refine lv_aload_n hx hb d_Md_write_11 rfl (lv_at hl 0 rfl) ?_
  refine va_get (D := (dC, dI)) (ci := 6) (v := .ref gI) (C := R_Md) (T := F_Md) (N := 21) hx hb hts i_Md hown hK hP 0 rfl rfl 11 (by decide) (hts _ wd_574) (fun _ h9 => h9) rfl d_Md_write_12 ?_
  refine lv_iload_n hx hb d_Md_write_15 rfl (lv_at hl 1 rfl) ?_
  refine lv_aload_n hx hb d_Md_write_16 rfl (lv_at hl 0 rfl) ?_
  refine lv_iload_n hx hb d_Md_write_17 rfl (lv_at hl 1 rfl) ?_
  refine zw_R (r := .int (nI (znum mk pg mL))) (va_runV (As := [.int (nI pg)]) (rest := [.int (nI pg), .ref gI]) ⟨hx, hb, hml, hown, hts⟩ (c_Md_numberOf l dC dI cT h0 mS mQ gK gV gH mL mo gM mch mA mP gI gR gT gF gS gE gC mB ml mz pg mk (by first | omega | assumption) (by first | omega | assumption) (by first | omega | assumption)) (cwV 1 hts (zgV wd_676 wd_678 wp_13 wd_11 wd_679) rfl rfl rfl (by decide +kernel) ⟨Nat.le_of_ble_eq_true rfl, Nat.le_of_ble_eq_true rfl⟩) ⟨zPreR_blind, va_recv hK hP (ci := 6) (q0 := 0) rfl rfl, zp_R hK hE (zSub (X := [(h0, zoMd mS mQ gK gV gH mL mo gM mch mA mP gI gR gT gF gS gE gC mB ml mz), (gK, zaI (cT 0) 1100 mk), (gI, zaN (cT 0) 8 mi), (gR, zaZ (cT 2) 8 mr)]) (pl := []) hP [0, 1] rfl)⟩ rfl rfl hl.1 rfl (lv_room (Nat.le_of_ble_eq_true rfl)) d_Md_write_18 ⟨Nat.le_of_ble_eq_true rfl, Nat.le_of_ble_eq_true rfl⟩) ?_
  refine zn_iastN hx hb hK hP hD hS 2 0 rfl rfl (i := pg) (x := znum mk pg mL) (by omega) (by omega) d_Md_write_21 (fun H locs hP hD hS => ?_)
  have hP : va_P (dC, dI) vwCl ([(h0, zoMd mS mQ gK gV gH mL mo gM mch mA mP gI gR gT gF gS gE gC mB ml mz), (gK, zaI (cT 0) 1100 mk), (gI, zaN (cT 0) 8 (va_up mi pg (znum mk pg mL))), (gR, zaZ (cT 2) 8 mr)]) H := hP
  have hD : va_D A ([(h0, zoMd mS mQ gK gV gH mL mo gM mch mA mP gI gR gT gF gS gE gC mB ml mz), (gK, zaI (cT 0) 1100 mk), (gI, zaN (cT 0) 8 (va_up mi pg (znum mk pg mL))), (gR, zaZ (cT 2) 8 mr)]) := hD
  refine lv_aload_n hx hb d_Md_write_22 rfl (lv_at hl 0 rfl) ?_
  refine va_get (D := (dC, dI)) (ci := 6) (v := .ref gR) (C := R_Md) (T := F_Md) (N := 21) hx hb hts i_Md hown hK hP 0 rfl rfl 12 (by decide) (hts _ wd_575) (fun _ h9 => h9) rfl d_Md_write_23 ?_
  refine lv_iload_n hx hb d_Md_write_26 rfl (lv_at hl 1 rfl) ?_
  refine lv_iconst (v := (nI 1)) hx hb d_Md_write_27 (by decide) ?_
  refine W.eq (g2 := F0 m 28 ls [.int (zb true), .int (nI pg), .ref gR]) rfl ?_
  refine zn_zastB hx hb hK hP hD hS 3 2 rfl rfl (i := pg) (x := true) (by omega) (by omega) d_Md_write_28 (fun H locs hP hD hS => ?_)
  have hP : va_P (dC, dI) vwCl ([(h0, zoMd mS mQ gK gV gH mL mo gM mch mA mP gI gR gT gF gS gE gC mB ml mz), (gK, zaI (cT 0) 1100 mk), (gI, zaN (cT 0) 8 (va_up mi pg (znum mk pg mL))), (gR, zaZ (cT 2) 8 (va_up mr pg true))]) H := hP
  have hD : va_D A ([(h0, zoMd mS mQ gK gV gH mL mo gM mch mA mP gI gR gT gF gS gE gC mB ml mz), (gK, zaI (cT 0) 1100 mk), (gI, zaN (cT 0) 8 (va_up mi pg (znum mk pg mL))), (gR, zaZ (cT 2) 8 (va_up mr pg true))]) := hD
  refine lv_aload_n hx hb d_Md_write_29 rfl (lv_at hl 0 rfl) ?_
  refine va_get (D := (dC, dI)) (ci := 6) (v := .ref gI) (C := R_Md) (T := F_Md) (N := 21) hx hb hts i_Md hown hK hP 0 rfl rfl 11 (by decide) (hts _ wd_574) (fun _ h9 => h9) rfl d_Md_write_30 ?_
  refine lv_iload_n hx hb d_Md_write_33 rfl (lv_at hl 1 rfl) ?_
  refine zn_iald hx hb hK hP 2 0 rfl rfl (i := pg) (by omega) (by omega) d_Md_write_34 ?_
  have hP9 := hP.sub (ws' := [(h0, zoMd mS mQ gK gV gH mL mo gM mch mA mP gI gR gT gF gS gE gC mB ml mz), (gK, zaI (cT 0) 1100 mk), (gI, zaN (cT 0) 8 (va_up mi pg (znum mk pg mL))), (gR, zaZ (cT 2) 8 (va_up mr pg true))]) [0, 1, 2, 3] rfl
  have hD9 := hD.sub (ws' := [(h0, zoMd mS mQ gK gV gH mL mo gM mch mA mP gI gR gT gF gS gE gC mB ml mz), (gK, zaI (cT 0) 1100 mk), (gI, zaN (cT 0) 8 (va_up mi pg (znum mk pg mL))), (gR, zaZ (cT 2) 8 (va_up mr pg true))]) [0, 1, 2, 3] (by decide) rfl
  exact W.iret hx hb hr (fun t ht hW => ⟨⟨(), trivial, by rw [va_up_self], by rw [ht]; exact hP9, hD9⟩, hS.F ht⟩) hS.2.2 d_Md_write_35
set_option maxHeartbeats 4000000 in
set_option maxRecDepth 100000 in
theorem c_Md_archive_no (l : Launch) (dC : Nat → ClassId) (dI : Nat → Nat → Nat) (cT : Nat → ClassId) (sz : Nat) (h0 : Nat) (mS : Nat) (mQ : Nat) (gK : Nat) (gV : Nat) (gH : Nat) (mL : Nat) (mo : Bool) (gM : Nat) (mch : Nat) (mA : Nat) (mP : Nat) (gI : Nat) (gR : Nat) (gT : Nat) (gF : Nat) (gS : Nat) (gE : Nat) (gC : Nat) (mB : Nat) (ml : Int32) (mz : Int32) (hL : mL ≤ 1000) (hm : (mA + 1) * mS < 2 ^ 31) (hno : mL < (mA + 1) * mS) : Met l y_Md_archive w_Md_archive ({ frames := 0, cells := 0, slots := 0, locals := 0 } : Room) (zPre (dC, dI) vwCl (zT cT) [.ref h0] ([(h0, zoMd mS mQ gK gV gH mL mo gM mch mA mP gI gR gT gF gS gE gC mB ml mz)]) sz) (zQ (dC, dI) vwCl (S := Unit) (fun zu => True) (fun zu => some (.int (-1))) (fun zu => [(h0, zoMd mS mQ gK gV gH mL mo gM mch mA mP gI gR gT gF gS gE gC mB ml mz)]) (va_A ([(h0, zoMd mS mQ gK gV gH mL mo gM mch mA mP gI gR gT gF gS gE gC mB ml mz)]) sz)) 0 0 (va_A ([(h0, zoMd mS mQ gK gV gH mL mo gM mch mA mP gI gR gT gF gS gE gC mB ml mz)]) sz) := by
  refine Met.ofW (cc := b_Md_archive) (maxL := 1) (ret := (some .int)) (by decide) rfl ?_
  intro p e s m args below meth c s₁ B hml hv
  obtain ⟨rfl, hsz, hP, hK, hD0, hE⟩ := hv
  have hx := B.exec
  have hb := B.bytes
  have hr := B.returns
  have hts := fun w h => atoms_spec (ws := w_Md_archive) B.pre w (List.mem_cons_of_mem _ h)
  have hown : s.vm.findClass R_Md = some m.cls := findClass_of_methodNamed B.named
  have hlocks := B.notSynchronized
  subst hsz
  have hD := hD0.self (sz := s.heap.size)
  generalize hAe : va_A ([(h0, zoMd mS mQ gK gV gH mL mo gM mch mA mP gI gR gT gF gS gE gC mB ml mz)]) s.heap.size = A at hD ⊢
  have hA : ∀ q : Nat, s.heap.size ≤ q → A q := fun q h => by rw [← hAe]; exact Or.inr h
  have hS : va_S A s.heap s.heap [] := va_S.rf
  have hl := lv_entry ([.ref h0]) (n := 1) (Nat.le_of_ble_eq_true rfl)
  rw [lg_entry_eq]
  generalize (lg_sl ([.ref h0]) ++ List.replicate (1 - (lg_sl ([.ref h0])).length) Slot.unset).toArray = ls at hl ⊢
  have hl : lv_has ls 1 [(0, .ref h0)] := hl
  refine lv_aload_n hx hb d_Md_archive_0 rfl (lv_at hl 0 rfl) ?_
  refine va_get (D := (dC, dI)) (ci := 6) (v := .int (nI mA)) (C := R_Md) (T := F_Md) (N := 21) hx hb hts i_Md hown hK hP 0 rfl rfl 9 (by decide) (hts _ wd_572) (fun _ h9 => h9) rfl d_Md_archive_1 ?_
  refine lv_iconst (v := (nI 1)) hx hb d_Md_archive_4 (by decide) ?_
  refine zn_iadd hx hb d_Md_archive_5 ?_
  refine lv_aload_n hx hb d_Md_archive_6 rfl (lv_at hl 0 rfl) ?_
  refine va_get (D := (dC, dI)) (ci := 6) (v := .int (nI mS)) (C := R_Md) (T := F_Md) (N := 21) hx hb hts i_Md hown hK hP 0 rfl rfl 0 (by decide) (hts _ wd_563) (fun _ h9 => h9) rfl d_Md_archive_7 ?_
  refine zn_imul hx hb d_Md_archive_10 ?_
  refine lv_aload_n hx hb d_Md_archive_11 rfl (lv_at hl 0 rfl) ?_
  refine va_get (D := (dC, dI)) (ci := 6) (v := .int (nI mL)) (C := R_Md) (T := F_Md) (N := 21) hx hb hts i_Md hown hK hP 0 rfl rfl 5 (by decide) (hts _ wd_568) (fun _ h9 => h9) rfl d_Md_archive_12 ?_
  refine zn_icmp_le (tgt := 20) hx hb (a := (mA + 1) * mS) (b := mL) (by omega) (by omega) d_Md_archive_15 (by decide) (fun c_15 => absurd c_15 (by omega)) (fun c_15 => ?_)
  refine lv_iconst (v := (-1)) hx hb d_Md_archive_18 (by decide) ?_
  have hP9 := hP.sub (ws' := [(h0, zoMd mS mQ gK gV gH mL mo gM mch mA mP gI gR gT gF gS gE gC mB ml mz)]) [0] rfl
  have hD9 := hD.sub (ws' := [(h0, zoMd mS mQ gK gV gH mL mo gM mch mA mP gI gR gT gF gS gE gC mB ml mz)]) [0] (by decide) rfl
  exact W.iret hx hb hr (fun t ht hW => ⟨⟨(), trivial, rfl, by rw [ht]; exact hP9, hD9⟩, hS.F ht⟩) hS.2.2 d_Md_archive_19
set_option maxHeartbeats 4000000 in
set_option maxRecDepth 100000 in
theorem c_Md_archive_yes (l : Launch) (dC : Nat → ClassId) (dI : Nat → Nat → Nat) (cT : Nat → ClassId) (sz : Nat) (h0 : Nat) (mS : Nat) (mQ : Nat) (gK : Nat) (gV : Nat) (gH : Nat) (mL : Nat) (mo : Bool) (gM : Nat) (mch : Nat) (mA : Nat) (mP : Nat) (gI : Nat) (gR : Nat) (gT : Nat) (gF : Nat) (gS : Nat) (gE : Nat) (gC : Nat) (mB : Nat) (ml : Int32) (mz : Int32) (hL : mL ≤ 1000) (hm : (mA + 1) * mS < 2 ^ 31) (hyes : (mA + 1) * mS ≤ mL) (hA : mA < 2 ^ 30) : Met l y_Md_archive w_Md_archive ({ frames := 0, cells := 0, slots := 0, locals := 0 } : Room) (zPre (dC, dI) vwCl (zT cT) [.ref h0] ([(h0, zoMd mS mQ gK gV gH mL mo gM mch mA mP gI gR gT gF gS gE gC mB ml mz)]) sz) (zQ (dC, dI) vwCl (S := Unit) (fun zu => True) (fun zu => some (.int (nI (mA + 1)))) (fun zu => [(h0, zoMd mS mQ gK gV gH mL mo gM mch (mA + 1) mP gI gR gT gF gS gE gC mB ml mz)]) (va_A ([(h0, zoMd mS mQ gK gV gH mL mo gM mch mA mP gI gR gT gF gS gE gC mB ml mz)]) sz)) 0 0 (va_A ([(h0, zoMd mS mQ gK gV gH mL mo gM mch mA mP gI gR gT gF gS gE gC mB ml mz)]) sz) := by
  refine Met.ofW (cc := b_Md_archive) (maxL := 1) (ret := (some .int)) (by decide) rfl ?_
  intro p e s m args below meth c s₁ B hml hv
  obtain ⟨rfl, hsz, hP, hK, hD0, hE⟩ := hv
  have hx := B.exec
  have hb := B.bytes
  have hr := B.returns
  have hts := fun w h => atoms_spec (ws := w_Md_archive) B.pre w (List.mem_cons_of_mem _ h)
  have hown : s.vm.findClass R_Md = some m.cls := findClass_of_methodNamed B.named
  have hlocks := B.notSynchronized
  subst hsz
  have hD := hD0.self (sz := s.heap.size)
  generalize hAe : va_A ([(h0, zoMd mS mQ gK gV gH mL mo gM mch mA mP gI gR gT gF gS gE gC mB ml mz)]) s.heap.size = A at hD ⊢
  have hA : ∀ q : Nat, s.heap.size ≤ q → A q := fun q h => by rw [← hAe]; exact Or.inr h
  have hS : va_S A s.heap s.heap [] := va_S.rf
  have hl := lv_entry ([.ref h0]) (n := 1) (Nat.le_of_ble_eq_true rfl)
  rw [lg_entry_eq]
  generalize (lg_sl ([.ref h0]) ++ List.replicate (1 - (lg_sl ([.ref h0])).length) Slot.unset).toArray = ls at hl ⊢
  have hl : lv_has ls 1 [(0, .ref h0)] := hl
  refine lv_aload_n hx hb d_Md_archive_0 rfl (lv_at hl 0 rfl) ?_
  refine va_get (D := (dC, dI)) (ci := 6) (v := .int (nI mA)) (C := R_Md) (T := F_Md) (N := 21) hx hb hts i_Md hown hK hP 0 rfl rfl 9 (by decide) (hts _ wd_572) (fun _ h9 => h9) rfl d_Md_archive_1 ?_
  refine lv_iconst (v := (nI 1)) hx hb d_Md_archive_4 (by decide) ?_
  refine zn_iadd hx hb d_Md_archive_5 ?_
  refine lv_aload_n hx hb d_Md_archive_6 rfl (lv_at hl 0 rfl) ?_
  refine va_get (D := (dC, dI)) (ci := 6) (v := .int (nI mS)) (C := R_Md) (T := F_Md) (N := 21) hx hb hts i_Md hown hK hP 0 rfl rfl 0 (by decide) (hts _ wd_563) (fun _ h9 => h9) rfl d_Md_archive_7 ?_
  refine zn_imul hx hb d_Md_archive_10 ?_
  refine lv_aload_n hx hb d_Md_archive_11 rfl (lv_at hl 0 rfl) ?_
  refine va_get (D := (dC, dI)) (ci := 6) (v := .int (nI mL)) (C := R_Md) (T := F_Md) (N := 21) hx hb hts i_Md hown hK hP 0 rfl rfl 5 (by decide) (hts _ wd_568) (fun _ h9 => h9) rfl d_Md_archive_12 ?_
  refine zn_icmp_le (tgt := 20) hx hb (a := (mA + 1) * mS) (b := mL) (by omega) (by omega) d_Md_archive_15 (by decide) (fun c_15 => ?_) (fun c_15 => absurd c_15 (by omega))
  refine lv_aload_n hx hb d_Md_archive_20 rfl (lv_at hl 0 rfl) ?_
  refine lv_dup hx hb d_Md_archive_21 rfl ?_
  refine va_get (D := (dC, dI)) (ci := 6) (v := .int (nI mA)) (C := R_Md) (T := F_Md) (N := 21) hx hb hts i_Md hown hK hP 0 rfl rfl 9 (by decide) (hts _ wd_572) (fun _ h9 => h9) rfl d_Md_archive_22 ?_
  refine lv_iconst (v := (nI 1)) hx hb d_Md_archive_25 (by decide) ?_
  refine zn_iadd hx hb d_Md_archive_26 ?_
  refine va_put (D := (dC, dI)) (ci := 6) (v := .int (nI (mA + 1))) (ty := .int) (C := R_Md) (T := F_Md) (N := 21) hx hb hts i_Md t_Md t_Md_ok n_Md hown hK hP hD hS 0 rfl rfl 9 (by decide) (hts _ wd_572) (fun _ h9 => h9) rfl (by decide +kernel) rfl rfl (Nat.le_of_ble_eq_true rfl) d_Md_archive_27 (fun H locs hP hD hS => ?_)
  have hP : va_P (dC, dI) vwCl ([(h0, zoMd mS mQ gK gV gH mL mo gM mch (mA + 1) mP gI gR gT gF gS gE gC mB ml mz)]) H := hP
  have hD : va_D A ([(h0, zoMd mS mQ gK gV gH mL mo gM mch (mA + 1) mP gI gR gT gF gS gE gC mB ml mz)]) := hD
  refine lv_aload_n hx hb d_Md_archive_30 rfl (lv_at hl 0 rfl) ?_
  refine va_get (D := (dC, dI)) (ci := 6) (v := .int (nI (mA + 1))) (C := R_Md) (T := F_Md) (N := 21) hx hb hts i_Md hown hK hP 0 rfl rfl 9 (by decide) (hts _ wd_572) (fun _ h9 => h9) rfl d_Md_archive_31 ?_
  have hP9 := hP.sub (ws' := [(h0, zoMd mS mQ gK gV gH mL mo gM mch (mA + 1) mP gI gR gT gF gS gE gC mB ml mz)]) [0] rfl
  have hD9 := hD.sub (ws' := [(h0, zoMd mS mQ gK gV gH mL mo gM mch (mA + 1) mP gI gR gT gF gS gE gC mB ml mz)]) [0] (by decide) rfl
  exact W.iret hx hb hr (fun t ht hW => ⟨⟨(), trivial, rfl, by rw [ht]; exact hP9, hD9⟩, hS.F ht⟩) hS.2.2 d_Md_archive_34
set_option maxHeartbeats 4000000 in
set_option maxRecDepth 100000 in
theorem c_Md_backup_run (l : Launch) (dC : Nat → ClassId) (dI : Nat → Nat → Nat) (cT : Nat → ClassId) (sz : Nat) (h0 : Nat) (mS : Nat) (mQ : Nat) (gK : Nat) (gV : Nat) (gH : Nat) (mL : Nat) (mo : Bool) (gM : Nat) (mch : Nat) (mA : Nat) (mP : Nat) (gI : Nat) (gR : Nat) (gT : Nat) (gF : Nat) (gS : Nat) (gE : Nat) (gC : Nat) (mB : Nat) (ml : Int32) (mz : Int32) (lv : Nat) (b : Bool) (hlv : lv ≤ 8) : Met l y_Md_backup w_Md_backup ({ frames := 0, cells := 0, slots := 0, locals := 0 } : Room) (zPre (dC, dI) vwCl (zT cT) [.ref h0, .int (zb b)] ([(h0, zoMd mS mQ gK gV gH mL mo gM mch mA mP gI gR gT gF gS gE gC mB (nI lv) mz)]) sz) (zQ (dC, dI) vwCl (S := Unit) (fun zu => True) (fun zu => some (.int (-1))) (fun zu => [(h0, zoMd mS mQ gK gV gH mL mo gM mch mA mP gI gR gT gF gS gE gC mB (nI lv) mz)]) (va_A ([(h0, zoMd mS mQ gK gV gH mL mo gM mch mA mP gI gR gT gF gS gE gC mB (nI lv) mz)]) sz)) 0 0 (va_A ([(h0, zoMd mS mQ gK gV gH mL mo gM mch mA mP gI gR gT gF gS gE gC mB (nI lv) mz)]) sz) := by
  refine Met.ofW (cc := b_Md_backup) (maxL := 4) (ret := (some .int)) (by decide) rfl ?_
  intro p e s m args below meth c s₁ B hml hv
  obtain ⟨rfl, hsz, hP, hK, hD0, hE⟩ := hv
  have hx := B.exec
  have hb := B.bytes
  have hr := B.returns
  have hts := fun w h => atoms_spec (ws := w_Md_backup) B.pre w (List.mem_cons_of_mem _ h)
  have hown : s.vm.findClass R_Md = some m.cls := findClass_of_methodNamed B.named
  have hlocks := B.notSynchronized
  subst hsz
  have hD := hD0.self (sz := s.heap.size)
  generalize hAe : va_A ([(h0, zoMd mS mQ gK gV gH mL mo gM mch mA mP gI gR gT gF gS gE gC mB (nI lv) mz)]) s.heap.size = A at hD ⊢
  have hA : ∀ q : Nat, s.heap.size ≤ q → A q := fun q h => by rw [← hAe]; exact Or.inr h
  have hS : va_S A s.heap s.heap [] := va_S.rf
  have hl := lv_entry ([.ref h0, .int (zb b)]) (n := 4) (Nat.le_of_ble_eq_true rfl)
  rw [lg_entry_eq]
  generalize (lg_sl ([.ref h0, .int (zb b)]) ++ List.replicate (4 - (lg_sl ([.ref h0, .int (zb b)])).length) Slot.unset).toArray = ls at hl ⊢
  have hl : lv_has ls 4 [(0, .ref h0), (1, .int (zb b))] := hl
  refine lv_aload_n hx hb d_Md_backup_0 rfl (lv_at hl 0 rfl) ?_
  refine va_get (D := (dC, dI)) (ci := 6) (v := .int (nI lv)) (C := R_Md) (T := F_Md) (N := 21) hx hb hts i_Md hown hK hP 0 rfl rfl 19 (by decide) (hts _ wd_582) (fun _ h9 => h9) rfl d_Md_backup_1 ?_
  refine zn_if_ge (tgt := 18) hx hb (a := lv) (by omega) d_Md_backup_4 (by decide) (fun _ => ?_) (fun c => c.elim)
  refine lv_iconst (v := (-1)) hx hb d_Md_backup_18 (by decide) ?_
  have hP9 := hP.sub (ws' := [(h0, zoMd mS mQ gK gV gH mL mo gM mch mA mP gI gR gT gF gS gE gC mB (nI lv) mz)]) [0] rfl
  have hD9 := hD.sub (ws' := [(h0, zoMd mS mQ gK gV gH mL mo gM mch mA mP gI gR gT gF gS gE gC mB (nI lv) mz)]) [0] (by decide) rfl
  exact W.iret hx hb hr (fun t ht hW => ⟨⟨(), trivial, rfl, by rw [ht]; exact hP9, hD9⟩, hS.F ht⟩) hS.2.2 d_Md_backup_19
set_option maxHeartbeats 4000000 in
set_option maxRecDepth 100000 in
theorem c_Md_backup_ref (l : Launch) (dC : Nat → ClassId) (dI : Nat → Nat → Nat) (cT : Nat → ClassId) (sz : Nat) (h0 : Nat) (mS : Nat) (mQ : Nat) (gK : Nat) (gV : Nat) (gH : Nat) (mL : Nat) (mo : Bool) (gM : Nat) (mch : Nat) (mA : Nat) (mP : Nat) (gI : Nat) (gR : Nat) (gT : Nat) (gF : Nat) (gS : Nat) (gE : Nat) (gC : Nat) (mB : Nat) (mz : Int32) (b : Bool) (mt : Nat → Bool) (mf : Nat → Bool) (hB : mB ≤ 256) (hbf : b = false) (hz : zful mt mf mB = 0) : Met l y_Md_backup w_Md_backup ({ frames := 1, cells := 0, slots := 0, locals := 22 } : Room) (zPre (dC, dI) vwCl (zT cT) [.ref h0, .int (zb b)] ([(h0, zoMd mS mQ gK gV gH mL mo gM mch mA mP gI gR gT gF gS gE gC mB (-2) mz), (gT, zaZ (cT 2) 260 mt), (gF, zaZ (cT 2) 260 mf)]) sz) (zQ (dC, dI) vwCl (S := Unit) (fun zu => True) (fun zu => some (.int (-1))) (fun zu => [(h0, zoMd mS mQ gK gV gH mL mo gM mch mA mP gI gR gT gF gS gE gC mB (-2) mz), (gT, zaZ (cT 2) 260 mt), (gF, zaZ (cT 2) 260 mf)]) (va_A ([(h0, zoMd mS mQ gK gV gH mL mo gM mch mA mP gI gR gT gF gS gE gC mB (-2) mz), (gT, zaZ (cT 2) 260 mt), (gF, zaZ (cT 2) 260 mf)]) sz)) 0 0 (va_A ([(h0, zoMd mS mQ gK gV gH mL mo gM mch mA mP gI gR gT gF gS gE gC mB (-2) mz), (gT, zaZ (cT 2) 260 mt), (gF, zaZ (cT 2) 260 mf)]) sz) := by
  refine Met.ofW (cc := b_Md_backup) (maxL := 4) (ret := (some .int)) (by decide) rfl ?_
  intro p e s m args below meth c s₁ B hml hv
  obtain ⟨rfl, hsz, hP, hK, hD0, hE⟩ := hv
  have hx := B.exec
  have hb := B.bytes
  have hr := B.returns
  have hts := fun w h => atoms_spec (ws := w_Md_backup) B.pre w (List.mem_cons_of_mem _ h)
  have hown : s.vm.findClass R_Md = some m.cls := findClass_of_methodNamed B.named
  have hlocks := B.notSynchronized
  subst hsz
  have hD := hD0.self (sz := s.heap.size)
  generalize hAe : va_A ([(h0, zoMd mS mQ gK gV gH mL mo gM mch mA mP gI gR gT gF gS gE gC mB (-2) mz), (gT, zaZ (cT 2) 260 mt), (gF, zaZ (cT 2) 260 mf)]) s.heap.size = A at hD ⊢
  have hA : ∀ q : Nat, s.heap.size ≤ q → A q := fun q h => by rw [← hAe]; exact Or.inr h
  have hS : va_S A s.heap s.heap [] := va_S.rf
  have hl := lv_entry ([.ref h0, .int (zb b)]) (n := 4) (Nat.le_of_ble_eq_true rfl)
  rw [lg_entry_eq]
  generalize (lg_sl ([.ref h0, .int (zb b)]) ++ List.replicate (4 - (lg_sl ([.ref h0, .int (zb b)])).length) Slot.unset).toArray = ls at hl ⊢
  have hl : lv_has ls 4 [(0, .ref h0), (1, .int (zb b))] := hl
  refine lv_aload_n hx hb d_Md_backup_0 rfl (lv_at hl 0 rfl) ?_
  refine va_get (D := (dC, dI)) (ci := 6) (v := .int (-2)) (C := R_Md) (T := F_Md) (N := 21) hx hb hts i_Md hown hK hP 0 rfl rfl 19 (by decide) (hts _ wd_582) (fun _ h9 => h9) rfl d_Md_backup_1 ?_
  refine lv_if_ge (tgt := 18) hx hb d_Md_backup_4 (by decide) (fun c_4 => absurd c_4 (by decide)) (fun c_4 => ?_)
  refine lv_iload_n hx hb d_Md_backup_7 rfl (lv_at hl 1 rfl) ?_
  refine zb_if_ne (tgt := 20) hx hb d_Md_backup_8 (by decide) (fun c_8 => absurd c_8 (by rw [hbf]; decide)) (fun c_8 => ?_)
  refine lv_aload_n hx hb d_Md_backup_11 rfl (lv_at hl 0 rfl) ?_
  refine zw_R (r := .int (nI (zful mt mf mB))) (va_runV (As := []) (rest := []) ⟨hx, hb, hml, hown, hts⟩ (c_Md_fulls l dC dI cT h0 mS mQ gK gV gH mL mo gM mch mA mP gI gR gT gF gS gE gC mB (-2) mz mt mf (by first | omega | assumption)) (cwV 0 hts (zgV wd_688 wd_690 wp_14 wd_11 wd_691) rfl rfl rfl (by decide +kernel) ⟨Nat.le_of_ble_eq_true rfl, Nat.le_of_ble_eq_true rfl⟩) ⟨zPreR_blind, va_recv hK hP (ci := 6) (q0 := 0) rfl rfl, zp_R hK hE (zSub (X := [(h0, zoMd mS mQ gK gV gH mL mo gM mch mA mP gI gR gT gF gS gE gC mB (-2) mz), (gT, zaZ (cT 2) 260 mt), (gF, zaZ (cT 2) 260 mf)]) (pl := []) hP [0, 1, 2] rfl)⟩ rfl rfl hl.1 rfl (lv_room (Nat.le_of_ble_eq_true rfl)) d_Md_backup_12 ⟨Nat.le_of_ble_eq_true rfl, Nat.le_of_ble_eq_true rfl⟩) ?_
  refine zn_if_ne (tgt := 20) hx hb (a := zful mt mf mB) (by omega) d_Md_backup_15 (by decide) (fun c_15 => absurd c_15 (by omega)) (fun c_15 => ?_)
  refine lv_iconst (v := (-1)) hx hb d_Md_backup_18 (by decide) ?_
  have hP9 := hP.sub (ws' := [(h0, zoMd mS mQ gK gV gH mL mo gM mch mA mP gI gR gT gF gS gE gC mB (-2) mz), (gT, zaZ (cT 2) 260 mt), (gF, zaZ (cT 2) 260 mf)]) [0, 1, 2] rfl
  have hD9 := hD.sub (ws' := [(h0, zoMd mS mQ gK gV gH mL mo gM mch mA mP gI gR gT gF gS gE gC mB (-2) mz), (gT, zaZ (cT 2) 260 mt), (gF, zaZ (cT 2) 260 mf)]) [0, 1, 2] (by decide) rfl
  exact W.iret hx hb hr (fun t ht hW => ⟨⟨(), trivial, rfl, by rw [ht]; exact hP9, hD9⟩, hS.F ht⟩) hS.2.2 d_Md_backup_19
set_option maxHeartbeats 4000000 in
set_option maxRecDepth 100000 in
theorem c_Md_backup_ok (l : Launch) (dC : Nat → ClassId) (dI : Nat → Nat → Nat) (cT : Nat → ClassId) (sz : Nat) (h0 : Nat) (mS : Nat) (mQ : Nat) (gK : Nat) (gV : Nat) (gH : Nat) (mL : Nat) (mo : Bool) (gM : Nat) (mch : Nat) (mA : Nat) (mP : Nat) (gI : Nat) (gR : Nat) (gT : Nat) (gF : Nat) (gS : Nat) (gE : Nat) (gC : Nat) (mB : Nat) (mz : Int32) (b : Bool) (mt : Nat → Bool) (mf : Nat → Bool) (mst : Nat → Nat) (cp : Nat → Int32) (hB : mB ≤ 255) (hL : mL ≤ 1000) (hz : b = true ∨ ¬ zful mt mf mB = 0) : Met l y_Md_backup w_Md_backup ({ frames := 1, cells := 0, slots := 0, locals := 22 } : Room) (zPre (dC, dI) vwCl (zT cT) [.ref h0, .int (zb b)] ([(h0, zoMd mS mQ gK gV gH mL mo gM mch mA mP gI gR gT gF gS gE gC mB (-2) mz), (gT, zaZ (cT 2) 260 mt), (gF, zaZ (cT 2) 260 mf), (gS, zaN (cT 0) 260 mst), (gC, zaI (cT 0) 2080 cp)]) sz) (zQ (dC, dI) vwCl (S := Unit) (fun zu => True) (fun zu => some (.int (nI 0))) (fun zu => [(h0, zoMd mS mQ gK gV gH mL mo gM mch mA mP gI gR gT gF gS gE gC mB (nI 8) mz), (gT, zaZ (cT 2) 260 mt), (gF, zaZ (cT 2) 260 (va_up mf (mB + 1) b)), (gS, zaN (cT 0) 260 (va_up mst (mB + 1) mL)), (gC, zaI (cT 0) 2080 (zclr cp (mB + 1) 8))]) (va_A ([(h0, zoMd mS mQ gK gV gH mL mo gM mch mA mP gI gR gT gF gS gE gC mB (-2) mz), (gT, zaZ (cT 2) 260 mt), (gF, zaZ (cT 2) 260 mf), (gS, zaN (cT 0) 260 mst), (gC, zaI (cT 0) 2080 cp)]) sz)) 0 0 (va_A ([(h0, zoMd mS mQ gK gV gH mL mo gM mch mA mP gI gR gT gF gS gE gC mB (-2) mz), (gT, zaZ (cT 2) 260 mt), (gF, zaZ (cT 2) 260 mf), (gS, zaN (cT 0) 260 mst), (gC, zaI (cT 0) 2080 cp)]) sz) := by
  refine Met.ofW (cc := b_Md_backup) (maxL := 4) (ret := (some .int)) (by decide) rfl ?_
  intro p e s m args below meth c s₁ B hml hv
  obtain ⟨rfl, hsz, hP, hK, hD0, hE⟩ := hv
  have hx := B.exec
  have hb := B.bytes
  have hr := B.returns
  have hts := fun w h => atoms_spec (ws := w_Md_backup) B.pre w (List.mem_cons_of_mem _ h)
  have hown : s.vm.findClass R_Md = some m.cls := findClass_of_methodNamed B.named
  have hlocks := B.notSynchronized
  subst hsz
  have hD := hD0.self (sz := s.heap.size)
  generalize hAe : va_A ([(h0, zoMd mS mQ gK gV gH mL mo gM mch mA mP gI gR gT gF gS gE gC mB (-2) mz), (gT, zaZ (cT 2) 260 mt), (gF, zaZ (cT 2) 260 mf), (gS, zaN (cT 0) 260 mst), (gC, zaI (cT 0) 2080 cp)]) s.heap.size = A at hD ⊢
  have hA : ∀ q : Nat, s.heap.size ≤ q → A q := fun q h => by rw [← hAe]; exact Or.inr h
  have hS : va_S A s.heap s.heap [] := va_S.rf
  have hl := lv_entry ([.ref h0, .int (zb b)]) (n := 4) (Nat.le_of_ble_eq_true rfl)
  rw [lg_entry_eq]
  generalize (lg_sl ([.ref h0, .int (zb b)]) ++ List.replicate (4 - (lg_sl ([.ref h0, .int (zb b)])).length) Slot.unset).toArray = ls at hl ⊢
  have hl : lv_has ls 4 [(0, .ref h0), (1, .int (zb b))] := hl
  have hzf := zful_le mt mf mB
  refine lv_aload_n hx hb d_Md_backup_0 rfl (lv_at hl 0 rfl) ?_
  refine va_get (D := (dC, dI)) (ci := 6) (v := .int (-2)) (C := R_Md) (T := F_Md) (N := 21) hx hb hts i_Md hown hK hP 0 rfl rfl 19 (by decide) (hts _ wd_582) (fun _ h9 => h9) rfl d_Md_backup_1 ?_
  refine lv_if_ge (tgt := 18) hx hb d_Md_backup_4 (by decide) (fun c_4 => absurd c_4 (by decide)) (fun c_4 => ?_)
  refine lv_iload_n hx hb d_Md_backup_7 rfl (lv_at hl 1 rfl) ?_
  refine zb_if_ne (tgt := 20) hx hb d_Md_backup_8 (by decide) (fun c_8 => ?_) (fun c_8 => ?_)
  · refine lv_aload_n hx hb d_Md_backup_20 rfl (lv_at hl 0 rfl) ?_
    refine va_get (D := (dC, dI)) (ci := 6) (v := .int (nI mB)) (C := R_Md) (T := F_Md) (N := 21) hx hb hts i_Md hown hK hP 0 rfl rfl 18 (by decide) (hts _ wd_581) (fun _ h9 => h9) rfl d_Md_backup_21 ?_
    refine lv_iconst (v := (nI 1)) hx hb d_Md_backup_24 (by decide) ?_
    refine zn_iadd hx hb d_Md_backup_25 ?_
    refine lv_istore_n (lv' := [(2, .int (nI (mB + 1))), (0, .ref h0), (1, .int (zb b))]) hx hb d_Md_backup_26 rfl hl (by decide) rfl (fun ls hl => ?_)
    refine lv_aload_n hx hb d_Md_backup_27 rfl (lv_at hl 1 rfl) ?_
    refine va_get (D := (dC, dI)) (ci := 6) (v := .ref gF) (C := R_Md) (T := F_Md) (N := 21) hx hb hts i_Md hown hK hP 0 rfl rfl 14 (by decide) (hts _ wd_577) (fun _ h9 => h9) rfl d_Md_backup_28 ?_
    refine lv_iload_n hx hb d_Md_backup_31 rfl (lv_at hl 0 rfl) ?_
    refine lv_iload_n hx hb d_Md_backup_32 rfl (lv_at hl 2 rfl) ?_
    refine zn_zastB hx hb hK hP hD hS 2 2 rfl rfl (i := mB + 1) (x := b) (by omega) (by omega) d_Md_backup_33 (fun H locs hP hD hS => ?_)
    have hP : va_P (dC, dI) vwCl ([(h0, zoMd mS mQ gK gV gH mL mo gM mch mA mP gI gR gT gF gS gE gC mB (-2) mz), (gT, zaZ (cT 2) 260 mt), (gF, zaZ (cT 2) 260 (va_up mf (mB + 1) b)), (gS, zaN (cT 0) 260 mst), (gC, zaI (cT 0) 2080 cp)]) H := hP
    have hD : va_D A ([(h0, zoMd mS mQ gK gV gH mL mo gM mch mA mP gI gR gT gF gS gE gC mB (-2) mz), (gT, zaZ (cT 2) 260 mt), (gF, zaZ (cT 2) 260 (va_up mf (mB + 1) b)), (gS, zaN (cT 0) 260 mst), (gC, zaI (cT 0) 2080 cp)]) := hD
    refine lv_aload_n hx hb d_Md_backup_34 rfl (lv_at hl 1 rfl) ?_
    refine va_get (D := (dC, dI)) (ci := 6) (v := .ref gS) (C := R_Md) (T := F_Md) (N := 21) hx hb hts i_Md hown hK hP 0 rfl rfl 15 (by decide) (hts _ wd_578) (fun _ h9 => h9) rfl d_Md_backup_35 ?_
    refine lv_iload_n hx hb d_Md_backup_38 rfl (lv_at hl 0 rfl) ?_
    refine lv_aload_n hx hb d_Md_backup_39 rfl (lv_at hl 1 rfl) ?_
    refine va_get (D := (dC, dI)) (ci := 6) (v := .int (nI mL)) (C := R_Md) (T := F_Md) (N := 21) hx hb hts i_Md hown hK hP 0 rfl rfl 5 (by decide) (hts _ wd_568) (fun _ h9 => h9) rfl d_Md_backup_40 ?_
    refine zn_iastN hx hb hK hP hD hS 3 0 rfl rfl (i := mB + 1) (x := mL) (by omega) (by omega) d_Md_backup_43 (fun H locs hP hD hS => ?_)
    have hP : va_P (dC, dI) vwCl ([(h0, zoMd mS mQ gK gV gH mL mo gM mch mA mP gI gR gT gF gS gE gC mB (-2) mz), (gT, zaZ (cT 2) 260 mt), (gF, zaZ (cT 2) 260 (va_up mf (mB + 1) b)), (gS, zaN (cT 0) 260 (va_up mst (mB + 1) mL)), (gC, zaI (cT 0) 2080 cp)]) H := hP
    have hD : va_D A ([(h0, zoMd mS mQ gK gV gH mL mo gM mch mA mP gI gR gT gF gS gE gC mB (-2) mz), (gT, zaZ (cT 2) 260 mt), (gF, zaZ (cT 2) 260 (va_up mf (mB + 1) b)), (gS, zaN (cT 0) 260 (va_up mst (mB + 1) mL)), (gC, zaI (cT 0) 2080 cp)]) := hD
    refine lv_iconst (v := (nI 0)) hx hb d_Md_backup_44 (by decide) ?_
    refine lv_istore_n (lv' := [(3, .int (nI 0)), (2, .int (nI (mB + 1))), (0, .ref h0), (1, .int (zb b))]) hx hb d_Md_backup_45 rfl hl (by decide) rfl (fun ls hl => ?_)
    have loop_46 : ∀ (fu : Nat) (i : Nat), 8 - i < fu → (i ≤ 8) → ∀ (H : Heap) (locs : List Loc), va_P (dC, dI) vwCl ([(h0, zoMd mS mQ gK gV gH mL mo gM mch mA mP gI gR gT gF gS gE gC mB (-2) mz), (gT, zaZ (cT 2) 260 mt), (gF, zaZ (cT 2) 260 (va_up mf (mB + 1) b)), (gS, zaN (cT 0) 260 (va_up mst (mB + 1) mL)), (gC, zaI (cT 0) 2080 (zclr cp (mB + 1) i))]) H → va_D A ([(h0, zoMd mS mQ gK gV gH mL mo gM mch mA mP gI gR gT gF gS gE gC mB (-2) mz), (gT, zaZ (cT 2) 260 mt), (gF, zaZ (cT 2) 260 (va_up mf (mB + 1) b)), (gS, zaN (cT 0) 260 (va_up mst (mB + 1) mL)), (gC, zaI (cT 0) 2080 (zclr cp (mB + 1) i))]) → va_S A s.heap H locs → ∀ (ls : Array Slot), lv_has ls 4 [(0, .ref h0), (1, .int (zb b)), (2, .int (nI (mB + 1))), (3, .int (nI i))] → W p l e (headSpec w_Md_backup ({ frames := 1, cells := 0, slots := 0, locals := 22 } : Room)).room s m ([.ref h0, .int (zb b)] : List Value).toArray below meth c H locs 0 0 (MQ below (zQ (dC, dI) vwCl (S := Unit) (fun zu => True) (fun zu => some (.int (nI 0))) (fun zu => [(h0, zoMd mS mQ gK gV gH mL mo gM mch mA mP gI gR gT gF gS gE gC mB (nI 8) mz), (gT, zaZ (cT 2) 260 mt), (gF, zaZ (cT 2) 260 (va_up mf (mB + 1) b)), (gS, zaN (cT 0) 260 (va_up mst (mB + 1) mL)), (gC, zaI (cT 0) 2080 (zclr cp (mB + 1) 8))]) A) ([.ref h0, .int (zb b)] : List Value).toArray s 0 0 A) (F0 m 46 ls []) := by
      intro fu
      induction fu with
      | zero => intro _ hm; exact absurd hm (Nat.not_lt_zero _)
      | succ fu ih_46 =>
        intro i hm_46 h1 H locs hP hD hS ls hl
        refine lv_iload_n hx hb d_Md_backup_46 rfl (lv_at hl 3 rfl) ?_
        refine lv_bipush (v := (nI 8)) hx hb d_Md_backup_47 (by decide) ?_
        refine zn_icmp_ge (tgt := 70) hx hb (a := i) (b := 8) (by omega) (by omega) d_Md_backup_49 (by decide) (fun c_49 => ?_) (fun c_49 => ?_)
        · refine lv_aload_n hx hb d_Md_backup_70 rfl (lv_at hl 0 rfl) ?_
          refine lv_bipush (v := (nI 8)) hx hb d_Md_backup_71 (by decide) ?_
          refine va_put (D := (dC, dI)) (ci := 6) (v := .int (nI 8)) (ty := .int) (C := R_Md) (T := F_Md) (N := 21) hx hb hts i_Md t_Md t_Md_ok n_Md hown hK hP hD hS 0 rfl rfl 19 (by decide) (hts _ wd_582) (fun _ h9 => h9) rfl (by decide +kernel) rfl rfl (Nat.le_of_ble_eq_true rfl) d_Md_backup_73 (fun H locs hP hD hS => ?_)
          have hP : va_P (dC, dI) vwCl ([(h0, zoMd mS mQ gK gV gH mL mo gM mch mA mP gI gR gT gF gS gE gC mB (nI 8) mz), (gT, zaZ (cT 2) 260 mt), (gF, zaZ (cT 2) 260 (va_up mf (mB + 1) b)), (gS, zaN (cT 0) 260 (va_up mst (mB + 1) mL)), (gC, zaI (cT 0) 2080 (zclr cp (mB + 1) i))]) H := hP
          have hD : va_D A ([(h0, zoMd mS mQ gK gV gH mL mo gM mch mA mP gI gR gT gF gS gE gC mB (nI 8) mz), (gT, zaZ (cT 2) 260 mt), (gF, zaZ (cT 2) 260 (va_up mf (mB + 1) b)), (gS, zaN (cT 0) 260 (va_up mst (mB + 1) mL)), (gC, zaI (cT 0) 2080 (zclr cp (mB + 1) i))]) := hD
          refine lv_iconst (v := (nI 0)) hx hb d_Md_backup_76 (by decide) ?_
          have hP9 := hP.sub (ws' := [(h0, zoMd mS mQ gK gV gH mL mo gM mch mA mP gI gR gT gF gS gE gC mB (nI 8) mz), (gT, zaZ (cT 2) 260 mt), (gF, zaZ (cT 2) 260 (va_up mf (mB + 1) b)), (gS, zaN (cT 0) 260 (va_up mst (mB + 1) mL)), (gC, zaI (cT 0) 2080 (zclr cp (mB + 1) i))]) [0, 1, 2, 3, 4] rfl
          have hD9 := hD.sub (ws' := [(h0, zoMd mS mQ gK gV gH mL mo gM mch mA mP gI gR gT gF gS gE gC mB (nI 8) mz), (gT, zaZ (cT 2) 260 mt), (gF, zaZ (cT 2) 260 (va_up mf (mB + 1) b)), (gS, zaN (cT 0) 260 (va_up mst (mB + 1) mL)), (gC, zaI (cT 0) 2080 (zclr cp (mB + 1) i))]) [0, 1, 2, 3, 4] (by decide) rfl
          rw [show i = 8 by omega] at hP9 hD9
          exact W.iret hx hb hr (fun t ht hW => ⟨⟨(), trivial, rfl, by rw [ht]; exact hP9, hD9⟩, hS.F ht⟩) hS.2.2 d_Md_backup_77
        · refine lv_aload_n hx hb d_Md_backup_52 rfl (lv_at hl 0 rfl) ?_
          refine va_get (D := (dC, dI)) (ci := 6) (v := .ref gC) (C := R_Md) (T := F_Md) (N := 21) hx hb hts i_Md hown hK hP 0 rfl rfl 17 (by decide) (hts _ wd_580) (fun _ h9 => h9) rfl d_Md_backup_53 ?_
          refine lv_iload_n hx hb d_Md_backup_56 rfl (lv_at hl 2 rfl) ?_
          refine lv_bipush (v := (nI 8)) hx hb d_Md_backup_57 (by decide) ?_
          refine zn_imul hx hb d_Md_backup_59 ?_
          refine lv_iload_n hx hb d_Md_backup_60 rfl (lv_at hl 3 rfl) ?_
          refine zn_iadd hx hb d_Md_backup_61 ?_
          refine lv_iconst (v := (-1)) hx hb d_Md_backup_62 (by decide) ?_
          refine zn_iast hx hb hK hP hD hS 4 0 rfl rfl (i := ((mB + 1) * 8) + i) (x := (-1)) (by omega) (by omega) d_Md_backup_63 (fun H locs hP hD hS => ?_)
          have hP : va_P (dC, dI) vwCl ([(h0, zoMd mS mQ gK gV gH mL mo gM mch mA mP gI gR gT gF gS gE gC mB (-2) mz), (gT, zaZ (cT 2) 260 mt), (gF, zaZ (cT 2) 260 (va_up mf (mB + 1) b)), (gS, zaN (cT 0) 260 (va_up mst (mB + 1) mL)), (gC, zaI (cT 0) 2080 (va_up (zclr cp (mB + 1) i) (((mB + 1) * 8) + i) (-1)))]) H := hP
          have hD : va_D A ([(h0, zoMd mS mQ gK gV gH mL mo gM mch mA mP gI gR gT gF gS gE gC mB (-2) mz), (gT, zaZ (cT 2) 260 mt), (gF, zaZ (cT 2) 260 (va_up mf (mB + 1) b)), (gS, zaN (cT 0) 260 (va_up mst (mB + 1) mL)), (gC, zaI (cT 0) 2080 (va_up (zclr cp (mB + 1) i) (((mB + 1) * 8) + i) (-1)))]) := hD
          refine lv_iinc (v := (nI (i + 1))) (lv' := [(3, .int (nI (i + 1))), (0, .ref h0), (1, .int (zb b)), (2, .int (nI (mB + 1)))]) hx hb d_Md_backup_64 hl (k := 3) rfl (nI_1 _) (by decide) rfl (fun ls hl => ?_)
          refine lv_goto (tgt := 46) hx hb d_Md_backup_67 (by decide) ?_
          exact ih_46 (i + 1) (by omega) (by first | omega | assumption) H locs (hP.sub [0, 1, 2, 3, 4] rfl) (hD.sub [0, 1, 2, 3, 4] (by decide) rfl) hS ls (lv_sub hl [1, 2, 3, 0] rfl)
    exact loop_46 (8 - 0 + 1) 0 (by omega) (by first | omega | assumption) H locs (hP.sub [0, 1, 2, 3, 4] rfl) (hD.sub [0, 1, 2, 3, 4] (by decide) rfl) hS ls (lv_sub hl [2, 3, 1, 0] rfl)
  · refine lv_aload_n hx hb d_Md_backup_11 rfl (lv_at hl 0 rfl) ?_
    refine zw_R (r := .int (nI (zful mt mf mB))) (va_runV (As := []) (rest := []) ⟨hx, hb, hml, hown, hts⟩ (c_Md_fulls l dC dI cT h0 mS mQ gK gV gH mL mo gM mch mA mP gI gR gT gF gS gE gC mB (-2) mz mt mf (by first | omega | assumption)) (cwV 0 hts (zgV wd_688 wd_690 wp_14 wd_11 wd_691) rfl rfl rfl (by decide +kernel) ⟨Nat.le_of_ble_eq_true rfl, Nat.le_of_ble_eq_true rfl⟩) ⟨zPreR_blind, va_recv hK hP (ci := 6) (q0 := 0) rfl rfl, zp_R hK hE (zSub (X := [(h0, zoMd mS mQ gK gV gH mL mo gM mch mA mP gI gR gT gF gS gE gC mB (-2) mz), (gT, zaZ (cT 2) 260 mt), (gF, zaZ (cT 2) 260 mf), (gS, zaN (cT 0) 260 mst), (gC, zaI (cT 0) 2080 cp)]) (pl := []) hP [0, 1, 2] rfl)⟩ rfl rfl hl.1 rfl (lv_room (Nat.le_of_ble_eq_true rfl)) d_Md_backup_12 ⟨Nat.le_of_ble_eq_true rfl, Nat.le_of_ble_eq_true rfl⟩) ?_
    refine zn_if_ne (tgt := 20) hx hb (a := zful mt mf mB) (by omega) d_Md_backup_15 (by decide) (fun c_15 => ?_) (fun c_15 => ?_)
    · refine lv_aload_n hx hb d_Md_backup_20 rfl (lv_at hl 0 rfl) ?_
      refine va_get (D := (dC, dI)) (ci := 6) (v := .int (nI mB)) (C := R_Md) (T := F_Md) (N := 21) hx hb hts i_Md hown hK hP 0 rfl rfl 18 (by decide) (hts _ wd_581) (fun _ h9 => h9) rfl d_Md_backup_21 ?_
      refine lv_iconst (v := (nI 1)) hx hb d_Md_backup_24 (by decide) ?_
      refine zn_iadd hx hb d_Md_backup_25 ?_
      refine lv_istore_n (lv' := [(2, .int (nI (mB + 1))), (0, .ref h0), (1, .int (zb b))]) hx hb d_Md_backup_26 rfl hl (by decide) rfl (fun ls hl => ?_)
      refine lv_aload_n hx hb d_Md_backup_27 rfl (lv_at hl 1 rfl) ?_
      refine va_get (D := (dC, dI)) (ci := 6) (v := .ref gF) (C := R_Md) (T := F_Md) (N := 21) hx hb hts i_Md hown hK hP 0 rfl rfl 14 (by decide) (hts _ wd_577) (fun _ h9 => h9) rfl d_Md_backup_28 ?_
      refine lv_iload_n hx hb d_Md_backup_31 rfl (lv_at hl 0 rfl) ?_
      refine lv_iload_n hx hb d_Md_backup_32 rfl (lv_at hl 2 rfl) ?_
      refine zn_zastB hx hb hK hP hD hS 2 2 rfl rfl (i := mB + 1) (x := b) (by omega) (by omega) d_Md_backup_33 (fun H locs hP hD hS => ?_)
      have hP : va_P (dC, dI) vwCl ([(h0, zoMd mS mQ gK gV gH mL mo gM mch mA mP gI gR gT gF gS gE gC mB (-2) mz), (gT, zaZ (cT 2) 260 mt), (gF, zaZ (cT 2) 260 (va_up mf (mB + 1) b)), (gS, zaN (cT 0) 260 mst), (gC, zaI (cT 0) 2080 cp)]) H := hP
      have hD : va_D A ([(h0, zoMd mS mQ gK gV gH mL mo gM mch mA mP gI gR gT gF gS gE gC mB (-2) mz), (gT, zaZ (cT 2) 260 mt), (gF, zaZ (cT 2) 260 (va_up mf (mB + 1) b)), (gS, zaN (cT 0) 260 mst), (gC, zaI (cT 0) 2080 cp)]) := hD
      refine lv_aload_n hx hb d_Md_backup_34 rfl (lv_at hl 1 rfl) ?_
      refine va_get (D := (dC, dI)) (ci := 6) (v := .ref gS) (C := R_Md) (T := F_Md) (N := 21) hx hb hts i_Md hown hK hP 0 rfl rfl 15 (by decide) (hts _ wd_578) (fun _ h9 => h9) rfl d_Md_backup_35 ?_
      refine lv_iload_n hx hb d_Md_backup_38 rfl (lv_at hl 0 rfl) ?_
      refine lv_aload_n hx hb d_Md_backup_39 rfl (lv_at hl 1 rfl) ?_
      refine va_get (D := (dC, dI)) (ci := 6) (v := .int (nI mL)) (C := R_Md) (T := F_Md) (N := 21) hx hb hts i_Md hown hK hP 0 rfl rfl 5 (by decide) (hts _ wd_568) (fun _ h9 => h9) rfl d_Md_backup_40 ?_
      refine zn_iastN hx hb hK hP hD hS 3 0 rfl rfl (i := mB + 1) (x := mL) (by omega) (by omega) d_Md_backup_43 (fun H locs hP hD hS => ?_)
      have hP : va_P (dC, dI) vwCl ([(h0, zoMd mS mQ gK gV gH mL mo gM mch mA mP gI gR gT gF gS gE gC mB (-2) mz), (gT, zaZ (cT 2) 260 mt), (gF, zaZ (cT 2) 260 (va_up mf (mB + 1) b)), (gS, zaN (cT 0) 260 (va_up mst (mB + 1) mL)), (gC, zaI (cT 0) 2080 cp)]) H := hP
      have hD : va_D A ([(h0, zoMd mS mQ gK gV gH mL mo gM mch mA mP gI gR gT gF gS gE gC mB (-2) mz), (gT, zaZ (cT 2) 260 mt), (gF, zaZ (cT 2) 260 (va_up mf (mB + 1) b)), (gS, zaN (cT 0) 260 (va_up mst (mB + 1) mL)), (gC, zaI (cT 0) 2080 cp)]) := hD
      refine lv_iconst (v := (nI 0)) hx hb d_Md_backup_44 (by decide) ?_
      refine lv_istore_n (lv' := [(3, .int (nI 0)), (2, .int (nI (mB + 1))), (0, .ref h0), (1, .int (zb b))]) hx hb d_Md_backup_45 rfl hl (by decide) rfl (fun ls hl => ?_)
      have loop_46 : ∀ (fu : Nat) (i : Nat), 8 - i < fu → (i ≤ 8) → ∀ (H : Heap) (locs : List Loc), va_P (dC, dI) vwCl ([(h0, zoMd mS mQ gK gV gH mL mo gM mch mA mP gI gR gT gF gS gE gC mB (-2) mz), (gT, zaZ (cT 2) 260 mt), (gF, zaZ (cT 2) 260 (va_up mf (mB + 1) b)), (gS, zaN (cT 0) 260 (va_up mst (mB + 1) mL)), (gC, zaI (cT 0) 2080 (zclr cp (mB + 1) i))]) H → va_D A ([(h0, zoMd mS mQ gK gV gH mL mo gM mch mA mP gI gR gT gF gS gE gC mB (-2) mz), (gT, zaZ (cT 2) 260 mt), (gF, zaZ (cT 2) 260 (va_up mf (mB + 1) b)), (gS, zaN (cT 0) 260 (va_up mst (mB + 1) mL)), (gC, zaI (cT 0) 2080 (zclr cp (mB + 1) i))]) → va_S A s.heap H locs → ∀ (ls : Array Slot), lv_has ls 4 [(0, .ref h0), (1, .int (zb b)), (2, .int (nI (mB + 1))), (3, .int (nI i))] → W p l e (headSpec w_Md_backup ({ frames := 1, cells := 0, slots := 0, locals := 22 } : Room)).room s m ([.ref h0, .int (zb b)] : List Value).toArray below meth c H locs 0 0 (MQ below (zQ (dC, dI) vwCl (S := Unit) (fun zu => True) (fun zu => some (.int (nI 0))) (fun zu => [(h0, zoMd mS mQ gK gV gH mL mo gM mch mA mP gI gR gT gF gS gE gC mB (nI 8) mz), (gT, zaZ (cT 2) 260 mt), (gF, zaZ (cT 2) 260 (va_up mf (mB + 1) b)), (gS, zaN (cT 0) 260 (va_up mst (mB + 1) mL)), (gC, zaI (cT 0) 2080 (zclr cp (mB + 1) 8))]) A) ([.ref h0, .int (zb b)] : List Value).toArray s 0 0 A) (F0 m 46 ls []) := by
        intro fu
        induction fu with
        | zero => intro _ hm; exact absurd hm (Nat.not_lt_zero _)
        | succ fu ih_46 =>
          intro i hm_46 h1 H locs hP hD hS ls hl
          refine lv_iload_n hx hb d_Md_backup_46 rfl (lv_at hl 3 rfl) ?_
          refine lv_bipush (v := (nI 8)) hx hb d_Md_backup_47 (by decide) ?_
          refine zn_icmp_ge (tgt := 70) hx hb (a := i) (b := 8) (by omega) (by omega) d_Md_backup_49 (by decide) (fun c_49 => ?_) (fun c_49 => ?_)
          · refine lv_aload_n hx hb d_Md_backup_70 rfl (lv_at hl 0 rfl) ?_
            refine lv_bipush (v := (nI 8)) hx hb d_Md_backup_71 (by decide) ?_
            refine va_put (D := (dC, dI)) (ci := 6) (v := .int (nI 8)) (ty := .int) (C := R_Md) (T := F_Md) (N := 21) hx hb hts i_Md t_Md t_Md_ok n_Md hown hK hP hD hS 0 rfl rfl 19 (by decide) (hts _ wd_582) (fun _ h9 => h9) rfl (by decide +kernel) rfl rfl (Nat.le_of_ble_eq_true rfl) d_Md_backup_73 (fun H locs hP hD hS => ?_)
            have hP : va_P (dC, dI) vwCl ([(h0, zoMd mS mQ gK gV gH mL mo gM mch mA mP gI gR gT gF gS gE gC mB (nI 8) mz), (gT, zaZ (cT 2) 260 mt), (gF, zaZ (cT 2) 260 (va_up mf (mB + 1) b)), (gS, zaN (cT 0) 260 (va_up mst (mB + 1) mL)), (gC, zaI (cT 0) 2080 (zclr cp (mB + 1) i))]) H := hP
            have hD : va_D A ([(h0, zoMd mS mQ gK gV gH mL mo gM mch mA mP gI gR gT gF gS gE gC mB (nI 8) mz), (gT, zaZ (cT 2) 260 mt), (gF, zaZ (cT 2) 260 (va_up mf (mB + 1) b)), (gS, zaN (cT 0) 260 (va_up mst (mB + 1) mL)), (gC, zaI (cT 0) 2080 (zclr cp (mB + 1) i))]) := hD
            refine lv_iconst (v := (nI 0)) hx hb d_Md_backup_76 (by decide) ?_
            have hP9 := hP.sub (ws' := [(h0, zoMd mS mQ gK gV gH mL mo gM mch mA mP gI gR gT gF gS gE gC mB (nI 8) mz), (gT, zaZ (cT 2) 260 mt), (gF, zaZ (cT 2) 260 (va_up mf (mB + 1) b)), (gS, zaN (cT 0) 260 (va_up mst (mB + 1) mL)), (gC, zaI (cT 0) 2080 (zclr cp (mB + 1) i))]) [0, 1, 2, 3, 4] rfl
            have hD9 := hD.sub (ws' := [(h0, zoMd mS mQ gK gV gH mL mo gM mch mA mP gI gR gT gF gS gE gC mB (nI 8) mz), (gT, zaZ (cT 2) 260 mt), (gF, zaZ (cT 2) 260 (va_up mf (mB + 1) b)), (gS, zaN (cT 0) 260 (va_up mst (mB + 1) mL)), (gC, zaI (cT 0) 2080 (zclr cp (mB + 1) i))]) [0, 1, 2, 3, 4] (by decide) rfl
            rw [show i = 8 by omega] at hP9 hD9
            exact W.iret hx hb hr (fun t ht hW => ⟨⟨(), trivial, rfl, by rw [ht]; exact hP9, hD9⟩, hS.F ht⟩) hS.2.2 d_Md_backup_77
          · refine lv_aload_n hx hb d_Md_backup_52 rfl (lv_at hl 0 rfl) ?_
            refine va_get (D := (dC, dI)) (ci := 6) (v := .ref gC) (C := R_Md) (T := F_Md) (N := 21) hx hb hts i_Md hown hK hP 0 rfl rfl 17 (by decide) (hts _ wd_580) (fun _ h9 => h9) rfl d_Md_backup_53 ?_
            refine lv_iload_n hx hb d_Md_backup_56 rfl (lv_at hl 2 rfl) ?_
            refine lv_bipush (v := (nI 8)) hx hb d_Md_backup_57 (by decide) ?_
            refine zn_imul hx hb d_Md_backup_59 ?_
            refine lv_iload_n hx hb d_Md_backup_60 rfl (lv_at hl 3 rfl) ?_
            refine zn_iadd hx hb d_Md_backup_61 ?_
            refine lv_iconst (v := (-1)) hx hb d_Md_backup_62 (by decide) ?_
            refine zn_iast hx hb hK hP hD hS 4 0 rfl rfl (i := ((mB + 1) * 8) + i) (x := (-1)) (by omega) (by omega) d_Md_backup_63 (fun H locs hP hD hS => ?_)
            have hP : va_P (dC, dI) vwCl ([(h0, zoMd mS mQ gK gV gH mL mo gM mch mA mP gI gR gT gF gS gE gC mB (-2) mz), (gT, zaZ (cT 2) 260 mt), (gF, zaZ (cT 2) 260 (va_up mf (mB + 1) b)), (gS, zaN (cT 0) 260 (va_up mst (mB + 1) mL)), (gC, zaI (cT 0) 2080 (va_up (zclr cp (mB + 1) i) (((mB + 1) * 8) + i) (-1)))]) H := hP
            have hD : va_D A ([(h0, zoMd mS mQ gK gV gH mL mo gM mch mA mP gI gR gT gF gS gE gC mB (-2) mz), (gT, zaZ (cT 2) 260 mt), (gF, zaZ (cT 2) 260 (va_up mf (mB + 1) b)), (gS, zaN (cT 0) 260 (va_up mst (mB + 1) mL)), (gC, zaI (cT 0) 2080 (va_up (zclr cp (mB + 1) i) (((mB + 1) * 8) + i) (-1)))]) := hD
            refine lv_iinc (v := (nI (i + 1))) (lv' := [(3, .int (nI (i + 1))), (0, .ref h0), (1, .int (zb b)), (2, .int (nI (mB + 1)))]) hx hb d_Md_backup_64 hl (k := 3) rfl (nI_1 _) (by decide) rfl (fun ls hl => ?_)
            refine lv_goto (tgt := 46) hx hb d_Md_backup_67 (by decide) ?_
            exact ih_46 (i + 1) (by omega) (by first | omega | assumption) H locs (hP.sub [0, 1, 2, 3, 4] rfl) (hD.sub [0, 1, 2, 3, 4] (by decide) rfl) hS ls (lv_sub hl [1, 2, 3, 0] rfl)
      exact loop_46 (8 - 0 + 1) 0 (by omega) (by first | omega | assumption) H locs (hP.sub [0, 1, 2, 3, 4] rfl) (hD.sub [0, 1, 2, 3, 4] (by decide) rfl) hS ls (lv_sub hl [2, 3, 1, 0] rfl)
    · exact absurd hz (fun q => q.elim (fun q1 => by rw [c_8] at q1; exact absurd q1 (by decide)) (fun q2 => q2 c_15))
