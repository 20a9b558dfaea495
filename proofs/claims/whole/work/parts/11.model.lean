/-! the reference's own words -/
def zaf (mk mv : Nat → Int32) (mh : Nat → Bool) (k : Int32) : Nat → Int64
  | 0 => 1000000000000
  | n + 1 => if mk (n + 1) = k then (if mh (n + 1) = true then (mv (n + 1)).toInt64 else 1000000000000) else zaf mk mv mh k n
theorem zaf_pos {mk mv : Nat → Int32} {mh : Nat → Bool} {k : Int32} {i : Nat} (h : 0 < i) : zaf mk mv mh k i = if mk i = k then (if mh i = true then (mv i).toInt64 else 1000000000000) else zaf mk mv mh k (i - 1) := by
  cases i with
  | zero => omega
  | succ n => rfl
def znum (mk : Nat → Int32) (pg : Nat) : Nat → Nat
  | 0 => 0
  | n + 1 => if isIn (mk (n + 1)) 32 = true ∧ kN (mk (n + 1)) / 4 = pg then n + 1 else znum mk pg n
theorem znum_pos {mk : Nat → Int32} {pg i : Nat} (h : 0 < i) : znum mk pg i = if isIn (mk i) 32 = true ∧ kN (mk i) / 4 = pg then i else znum mk pg (i - 1) := by
  cases i with
  | zero => omega
  | succ n => rfl
theorem znum_le (mk : Nat → Int32) (pg : Nat) : ∀ n, znum mk pg n ≤ n
  | 0 => Nat.le_refl _
  | n + 1 => by
    have := znum_le mk pg n
    simp only [znum]
    split <;> omega
def zcho (mk : Nat → Int32) (pg a : Nat) : Nat → Nat
  | 0 => 0
  | n + 1 => zcho mk pg a n + (if a < n + 1 ∧ isIn (mk (n + 1)) 32 = true ∧ kN (mk (n + 1)) / 4 = pg then 1 else 0)
theorem zcho_pos {mk : Nat → Int32} {pg a i : Nat} (h : 0 < i) : zcho mk pg a i = zcho mk pg a (i - 1) + (if a < i ∧ isIn (mk i) 32 = true ∧ kN (mk i) / 4 = pg then 1 else 0) := by
  cases i with
  | zero => omega
  | succ n => rfl
theorem zcho_0 (mk : Nat → Int32) (pg a : Nat) : ∀ n, n ≤ a → zcho mk pg a n = 0
  | 0, _ => rfl
  | n + 1, h => by
    simp only [zcho, zcho_0 mk pg a n (by omega)]
    rw [if_neg (fun q => by have := q.1; omega)]
theorem zcho_le (mk : Nat → Int32) (pg a : Nat) : ∀ n, zcho mk pg a n ≤ n
  | 0 => Nat.le_refl _
  | n + 1 => by
    have := zcho_le mk pg a n
    simp only [zcho]
    split <;> omega
theorem zcom_pos {mk : Nat → Int32} {i : Nat} (h : 0 < i) : zcom mk i = zcom mk (i - 1) + (if mk i = -1 then 1 else 0) := by
  cases i with
  | zero => omega
  | succ n => rfl
def zful (mt mf : Nat → Bool) : Nat → Nat
  | 0 => 0
  | n + 1 => zful mt mf n + (if mt (n + 1) = true ∧ mf (n + 1) = true then 1 else 0)
theorem zful_pos {mt mf : Nat → Bool} {i : Nat} (h : 0 < i) : zful mt mf i = zful mt mf (i - 1) + (if mt i = true ∧ mf i = true then 1 else 0) := by
  cases i with
  | zero => omega
  | succ n => rfl
theorem zful_le (mt mf : Nat → Bool) : ∀ n, zful mt mf n ≤ n
  | 0 => Nat.le_refl _
  | n + 1 => by
    have := zful_le mt mf n
    simp only [zful]
    split <;> omega
/-- what a place for an image's number can hold -/
def okc (x : Int32) : Prop := x = -1 ∨ (x = nI (kN x) ∧ kN x ≤ 1000)
theorem kN_m1 : kN (-1) = 0 := by decide
theorem okc_le {x : Int32} {n : Nat} (h : okc x) (hn : n < 2 ^ 31) : x ≤ nI n ↔ kN x ≤ n := by
  rcases h with h | ⟨h1, h2⟩
  · subst h
    rw [kN_m1]
    refine ⟨fun _ => Nat.zero_le _, fun _ => ?_⟩
    rw [Int32.le_iff_toInt_le, nI_toInt hn]
    have : (-1 : Int32).toInt = -1 := by decide
    omega
  · have := nI_leI (a := kN x) (b := n) (by omega) hn
    rw [← h1] at this
    exact this
def zbst (mt : Nat → Bool) (cp : Nat → Int32) (pg b0 : Nat) : Nat → Nat
  | 0 => b0
  | n + 1 => if mt (n + 1) = true then max (zbst mt cp pg b0 n) (kN (cp ((n + 1) * 8 + pg))) else zbst mt cp pg b0 n
theorem zbst_pos {mt : Nat → Bool} {cp : Nat → Int32} {pg b0 i : Nat} (h : 0 < i) : zbst mt cp pg b0 i = if mt i = true then max (zbst mt cp pg b0 (i - 1)) (kN (cp (i * 8 + pg))) else zbst mt cp pg b0 (i - 1) := by
  cases i with
  | zero => omega
  | succ n => rfl
set_option maxHeartbeats 4000000 in
set_option maxRecDepth 100000 in
theorem c_Md_in (l : Launch) (dC : Nat → ClassId) (dI : Nat → Nat → Nat) (cT : Nat → ClassId) (x : Int32) (n : Nat) : Met l y_Md_in w_Md_in ({ frames := 0, cells := 0, slots := 0, locals := 0 } : Room) (zPreR (dC, dI) vwCl (zT cT) [.int x, .int (nI n)] ([])) (k2_QcV (.int (zb (isIn x n)))) 0 0 (fun _ => False) := by
  refine Met.ofW (cc := b_Md_in) (maxL := 2) (ret := (some .boolean)) (by decide) rfl ?_
  intro p e s m args below meth c s₁ B hml hv
  obtain ⟨rfl, hP, hK, hE⟩ := hv
  have hx := B.exec
  have hb := B.bytes
  have hr := B.returns
  have hts := fun w h => atoms_spec (ws := w_Md_in) B.pre w (List.mem_cons_of_mem _ h)
  have hown : s.vm.findClass R_Md = some m.cls := findClass_of_methodNamed B.named
  have hlocks := B.notSynchronized
  have hl := lv_entry ([.int x, .int (nI n)]) (n := 2) (Nat.le_of_ble_eq_true rfl)
  rw [lg_entry_eq]
  generalize (lg_sl ([.int x, .int (nI n)]) ++ List.replicate (2 - (lg_sl ([.int x, .int (nI n)])).length) Slot.unset).toArray = ls at hl ⊢
  have hl : lv_has ls 2 [(0, .int x), (1, .int (nI n))] := hl
  refine lv_iload_n hx hb d_Md_in_0 rfl (lv_at hl 0 rfl) ?_
  refine lv_if_lt (tgt := 13) hx hb d_Md_in_1 (by decide) (fun c_1 => ?_) (fun c_1 => ?_)
  · refine lv_iconst (v := (nI 0)) hx hb d_Md_in_13 (by decide) ?_
    refine W.eq (g2 := F0 m 14 ls [.int (zb false)]) rfl ?_
    exact W.zret hx hb hr (zb_narrow _) (fun t ht hW => ⟨by rw [isIn_f1 c_1], ht⟩) (fun q h => by cases h) d_Md_in_14
  · refine lv_iload_n hx hb d_Md_in_4 rfl (lv_at hl 0 rfl) ?_
    refine lv_iload_n hx hb d_Md_in_5 rfl (lv_at hl 1 rfl) ?_
    refine lv_icmp_ge (tgt := 13) hx hb d_Md_in_6 (by decide) (fun c_6 => ?_) (fun c_6 => ?_)
    · refine lv_iconst (v := (nI 0)) hx hb d_Md_in_13 (by decide) ?_
      refine W.eq (g2 := F0 m 14 ls [.int (zb false)]) rfl ?_
      exact W.zret hx hb hr (zb_narrow _) (fun t ht hW => ⟨by rw [isIn_f2 c_6], ht⟩) (fun q h => by cases h) d_Md_in_14
    · refine lv_iconst (v := (nI 1)) hx hb d_Md_in_9 (by decide) ?_
      refine lv_goto (tgt := 14) hx hb d_Md_in_10 (by decide) ?_
      refine W.eq (g2 := F0 m 14 ls [.int (zb true)]) rfl ?_
      exact W.zret hx hb hr (zb_narrow _) (fun t ht hW => ⟨by rw [isIn_t c_1 c_6], ht⟩) (fun q h => by cases h) d_Md_in_14
set_option maxHeartbeats 4000000 in
set_option maxRecDepth 100000 in
theorem c_Md_room (l : Launch) (dC : Nat → ClassId) (dI : Nat → Nat → Nat) (cT : Nat → ClassId) (h0 : Nat) (mS : Nat) (mQ : Nat) (gK : Nat) (gV : Nat) (gH : Nat) (mL : Nat) (mo : Bool) (gM : Nat) (mch : Nat) (mA : Nat) (mP : Nat) (gI : Nat) (gR : Nat) (gT : Nat) (gF : Nat) (gS : Nat) (gE : Nat) (gC : Nat) (mB : Nat) (ml : Int32) (mz : Int32) (hr0 : mL ≤ (mA + 4) * mS) : Met l y_Md_room w_Md_room ({ frames := 0, cells := 0, slots := 0, locals := 0 } : Room) (zPreR (dC, dI) vwCl (zT cT) [.ref h0] ([(h0, zoMd mS mQ gK gV gH mL mo gM mch mA mP gI gR gT gF gS gE gC mB ml mz)])) (k2_QcV (.int (nI ((mA + 4) * mS - mL)))) 0 0 (fun _ => False) := by
  refine Met.ofW (cc := b_Md_room) (maxL := 1) (ret := (some .int)) (by decide) rfl ?_
  intro p e s m args below meth c s₁ B hml hv
  obtain ⟨rfl, hP, hK, hE⟩ := hv
  have hx := B.exec
  have hb := B.bytes
  have hr := B.returns
  have hts := fun w h => atoms_spec (ws := w_Md_room) B.pre w (List.mem_cons_of_mem _ h)
  have hown : s.vm.findClass R_Md = some m.cls := findClass_of_methodNamed B.named
  have hlocks := B.notSynchronized
  have hl := lv_entry ([.ref h0]) (n := 1) (Nat.le_of_ble_eq_true rfl)
  rw [lg_entry_eq]
  generalize (lg_sl ([.ref h0]) ++ List.replicate (1 - (lg_sl ([.ref h0])).length) Slot.unset).toArray = ls at hl ⊢
  have hl : lv_has ls 1 [(0, .ref h0)] := hl
  refine lv_aload_n hx hb d_Md_room_0 rfl (lv_at hl 0 rfl) ?_
  refine va_get (D := (dC, dI)) (ci := 6) (v := .int (nI mA)) (C := R_Md) (T := F_Md) (N := 21) hx hb hts i_Md hown hK hP 0 rfl rfl 9 (by decide) (hts _ wd_572) (fun _ h9 => h9) rfl d_Md_room_1 ?_
  refine lv_iconst (v := (nI 4)) hx hb d_Md_room_4 (by decide) ?_
  refine zn_iadd hx hb d_Md_room_5 ?_
  refine lv_aload_n hx hb d_Md_room_6 rfl (lv_at hl 0 rfl) ?_
  refine va_get (D := (dC, dI)) (ci := 6) (v := .int (nI mS)) (C := R_Md) (T := F_Md) (N := 21) hx hb hts i_Md hown hK hP 0 rfl rfl 0 (by decide) (hts _ wd_563) (fun _ h9 => h9) rfl d_Md_room_7 ?_
  refine zn_imul hx hb d_Md_room_10 ?_
  refine lv_aload_n hx hb d_Md_room_11 rfl (lv_at hl 0 rfl) ?_
  refine va_get (D := (dC, dI)) (ci := 6) (v := .int (nI mL)) (C := R_Md) (T := F_Md) (N := 21) hx hb hts i_Md hown hK hP 0 rfl rfl 5 (by decide) (hts _ wd_568) (fun _ h9 => h9) rfl d_Md_room_12 ?_
  refine zn_isub hx hb (by omega) d_Md_room_15 ?_
  exact W.iret hx hb hr (fun t ht hW => ⟨rfl, ht⟩) (fun q h => by cases h) d_Md_room_16
set_option maxHeartbeats 4000000 in
set_option maxRecDepth 100000 in
theorem c_Md_begun (l : Launch) (dC : Nat → ClassId) (dI : Nat → Nat → Nat) (cT : Nat → ClassId) (h0 : Nat) (mS : Nat) (mQ : Nat) (gK : Nat) (gV : Nat) (gH : Nat) (mL : Nat) (mo : Bool) (gM : Nat) (mch : Nat) (mA : Nat) (mP : Nat) (gI : Nat) (gR : Nat) (gT : Nat) (gF : Nat) (gS : Nat) (gE : Nat) (gC : Nat) (mB : Nat) (ml : Int32) (mz : Int32) (hL : mL ≤ 1000) (hs0 : 0 < mS) (hs8 : mS ≤ 8) : Met l y_Md_begun w_Md_begun ({ frames := 0, cells := 0, slots := 0, locals := 0 } : Room) (zPreR (dC, dI) vwCl (zT cT) [.ref h0] ([(h0, zoMd mS mQ gK gV gH mL mo gM mch mA mP gI gR gT gF gS gE gC mB ml mz)])) (k2_QcV (.int (nI ((mL + mS - 1) / mS)))) 0 0 (fun _ => False) := by
  refine Met.ofW (cc := b_Md_begun) (maxL := 1) (ret := (some .int)) (by decide) rfl ?_
  intro p e s m args below meth c s₁ B hml hv
  obtain ⟨rfl, hP, hK, hE⟩ := hv
  have hx := B.exec
  have hb := B.bytes
  have hr := B.returns
  have hts := fun w h => atoms_spec (ws := w_Md_begun) B.pre w (List.mem_cons_of_mem _ h)
  have hown : s.vm.findClass R_Md = some m.cls := findClass_of_methodNamed B.named
  have hlocks := B.notSynchronized
  have hl := lv_entry ([.ref h0]) (n := 1) (Nat.le_of_ble_eq_true rfl)
  rw [lg_entry_eq]
  generalize (lg_sl ([.ref h0]) ++ List.replicate (1 - (lg_sl ([.ref h0])).length) Slot.unset).toArray = ls at hl ⊢
  have hl : lv_has ls 1 [(0, .ref h0)] := hl
  refine lv_aload_n hx hb d_Md_begun_0 rfl (lv_at hl 0 rfl) ?_
  refine va_get (D := (dC, dI)) (ci := 6) (v := .int (nI mL)) (C := R_Md) (T := F_Md) (N := 21) hx hb hts i_Md hown hK hP 0 rfl rfl 5 (by decide) (hts _ wd_568) (fun _ h9 => h9) rfl d_Md_begun_1 ?_
  refine lv_aload_n hx hb d_Md_begun_4 rfl (lv_at hl 0 rfl) ?_
  refine va_get (D := (dC, dI)) (ci := 6) (v := .int (nI mS)) (C := R_Md) (T := F_Md) (N := 21) hx hb hts i_Md hown hK hP 0 rfl rfl 0 (by decide) (hts _ wd_563) (fun _ h9 => h9) rfl d_Md_begun_5 ?_
  refine zn_iadd hx hb d_Md_begun_8 ?_
  refine lv_iconst (v := (nI 1)) hx hb d_Md_begun_9 (by decide) ?_
  refine zn_isub hx hb (by omega) d_Md_begun_10 ?_
  refine lv_aload_n hx hb d_Md_begun_11 rfl (lv_at hl 0 rfl) ?_
  refine va_get (D := (dC, dI)) (ci := 6) (v := .int (nI mS)) (C := R_Md) (T := F_Md) (N := 21) hx hb hts i_Md hown hK hP 0 rfl rfl 0 (by decide) (hts _ wd_563) (fun _ h9 => h9) rfl d_Md_begun_12 ?_
  refine zn_idiv hx hb (by omega) (by omega) (by omega) d_Md_begun_15 ?_
  exact W.iret hx hb hr (fun t ht hW => ⟨rfl, ht⟩) (fun q h => by cases h) d_Md_begun_16
set_option maxHeartbeats 4000000 in
set_option maxRecDepth 100000 in
theorem c_Md_log (l : Launch) (dC : Nat → ClassId) (dI : Nat → Nat → Nat) (cT : Nat → ClassId) (sz : Nat) (h0 : Nat) (mS : Nat) (mQ : Nat) (gK : Nat) (gV : Nat) (gH : Nat) (mL : Nat) (mo : Bool) (gM : Nat) (mch : Nat) (mA : Nat) (mP : Nat) (gI : Nat) (gR : Nat) (gT : Nat) (gF : Nat) (gS : Nat) (gE : Nat) (gC : Nat) (mB : Nat) (ml : Int32) (mz : Int32) (k : Int32) (v : Int32) (b : Bool) (mk : Nat → Int32) (mv : Nat → Int32) (mh : Nat → Bool) (hL : mL < 1000) : Met l y_Md_log w_Md_log ({ frames := 0, cells := 0, slots := 0, locals := 0 } : Room) (zPre (dC, dI) vwCl (zT cT) [.ref h0, .int k, .int v, .int (zb b)] ([(h0, zoMd mS mQ gK gV gH mL mo gM mch mA mP gI gR gT gF gS gE gC mB ml mz), (gK, zaI (cT 0) 1100 mk), (gV, zaI (cT 0) 1100 mv), (gH, zaZ (cT 2) 1100 mh)]) sz) (zQ (dC, dI) vwCl (S := Unit) (fun zu => True) (fun zu => some (.int (nI (mL + 1)))) (fun zu => [(h0, zoMd mS mQ gK gV gH (mL + 1) mo gM mch mA mP gI gR gT gF gS gE gC mB ml mz), (gK, zaI (cT 0) 1100 (va_up mk (mL + 1) k)), (gV, zaI (cT 0) 1100 (va_up mv (mL + 1) v)), (gH, zaZ (cT 2) 1100 (va_up mh (mL + 1) b))]) (va_A ([(h0, zoMd mS mQ gK gV gH mL mo gM mch mA mP gI gR gT gF gS gE gC mB ml mz), (gK, zaI (cT 0) 1100 mk), (gV, zaI (cT 0) 1100 mv), (gH, zaZ (cT 2) 1100 mh)]) sz)) 0 0 (va_A ([(h0, zoMd mS mQ gK gV gH mL mo gM mch mA mP gI gR gT gF gS gE gC mB ml mz), (gK, zaI (cT 0) 1100 mk), (gV, zaI (cT 0) 1100 mv), (gH, zaZ (cT 2) 1100 mh)]) sz) := by
  refine Met.ofW (cc := b_Md_log) (maxL := 4) (ret := (some .int)) (by decide) rfl ?_
  intro p e s m args below meth c s₁ B hml hv
  obtain ⟨rfl, hsz, hP, hK, hD0, hE⟩ := hv
  have hx := B.exec
  have hb := B.bytes
  have hr := B.returns
  have hts := fun w h => atoms_spec (ws := w_Md_log) B.pre w (List.mem_cons_of_mem _ h)
  have hown : s.vm.findClass R_Md = some m.cls := findClass_of_methodNamed B.named
  have hlocks := B.notSynchronized
  subst hsz
  have hD := hD0.self (sz := s.heap.size)
  generalize hAe : va_A ([(h0, zoMd mS mQ gK gV gH mL mo gM mch mA mP gI gR gT gF gS gE gC mB ml mz), (gK, zaI (cT 0) 1100 mk), (gV, zaI (cT 0) 1100 mv), (gH, zaZ (cT 2) 1100 mh)]) s.heap.size = A at hD ⊢
  have hA : ∀ q : Nat, s.heap.size ≤ q → A q := fun q h => by rw [← hAe]; exact Or.inr h
  have hS : va_S A s.heap s.heap [] := va_S.rf
  have hl := lv_entry ([.ref h0, .int k, .int v, .int (zb b)]) (n := 4) (Nat.le_of_ble_eq_true rfl)
  rw [lg_entry_eq]
  generalize (lg_sl ([.ref h0, .int k, .int v, .int (zb b)]) ++ List.replicate (4 - (lg_sl ([.ref h0, .int k, .int v, .int (zb b)])).length) Slot.unset).toArray = ls at hl ⊢
  have hl : lv_has ls 4 [(0, .ref h0), (1, .int k), (2, .int v), (3, .int (zb b))] := hl
  refine lv_aload_n hx hb d_Md_log_0 rfl (lv_at hl 0 rfl) ?_
  refine lv_dup hx hb d_Md_log_1 rfl ?_
  refine va_get (D := (dC, dI)) (ci := 6) (v := .int (nI mL)) (C := R_Md) (T := F_Md) (N := 21) hx hb hts i_Md hown hK hP 0 rfl rfl 5 (by decide) (hts _ wd_568) (fun _ h9 => h9) rfl d_Md_log_2 ?_
  refine lv_iconst (v := (nI 1)) hx hb d_Md_log_5 (by decide) ?_
  refine zn_iadd hx hb d_Md_log_6 ?_
  refine va_put (D := (dC, dI)) (ci := 6) (v := .int (nI (mL + 1))) (ty := .int) (C := R_Md) (T := F_Md) (N := 21) hx hb hts i_Md t_Md t_Md_ok n_Md hown hK hP hD hS 0 rfl rfl 5 (by decide) (hts _ wd_568) (fun _ h9 => h9) rfl (by decide +kernel) rfl rfl (Nat.le_of_ble_eq_true rfl) d_Md_log_7 (fun H locs hP hD hS => ?_)
  have hP : va_P (dC, dI) vwCl ([(h0, zoMd mS mQ gK gV gH (mL + 1) mo gM mch mA mP gI gR gT gF gS gE gC mB ml mz), (gK, zaI (cT 0) 1100 mk), (gV, zaI (cT 0) 1100 mv), (gH, zaZ (cT 2) 1100 mh)]) H := hP
  have hD : va_D A ([(h0, zoMd mS mQ gK gV gH (mL + 1) mo gM mch mA mP gI gR gT gF gS gE gC mB ml mz), (gK, zaI (cT 0) 1100 mk), (gV, zaI (cT 0) 1100 mv), (gH, zaZ (cT 2) 1100 mh)]) := hD
  refine lv_aload_n hx hb d_Md_log_10 rfl (lv_at hl 0 rfl) ?_
  refine va_get (D := (dC, dI)) (ci := 6) (v := .ref gK) (C := R_Md) (T := F_Md) (N := 21) hx hb hts i_Md hown hK hP 0 rfl rfl 2 (by decide) (hts _ wd_565) (fun _ h9 => h9) rfl d_Md_log_11 ?_
  refine lv_aload_n hx hb d_Md_log_14 rfl (lv_at hl 0 rfl) ?_
  refine va_get (D := (dC, dI)) (ci := 6) (v := .int (nI (mL + 1))) (C := R_Md) (T := F_Md) (N := 21) hx hb hts i_Md hown hK hP 0 rfl rfl 5 (by decide) (hts _ wd_568) (fun _ h9 => h9) rfl d_Md_log_15 ?_
  refine lv_iload_n hx hb d_Md_log_18 rfl (lv_at hl 1 rfl) ?_
  refine zn_iast hx hb hK hP hD hS 1 0 rfl rfl (i := mL + 1) (x := k) (by omega) (by omega) d_Md_log_19 (fun H locs hP hD hS => ?_)
  have hP : va_P (dC, dI) vwCl ([(h0, zoMd mS mQ gK gV gH (mL + 1) mo gM mch mA mP gI gR gT gF gS gE gC mB ml mz), (gK, zaI (cT 0) 1100 (va_up mk (mL + 1) k)), (gV, zaI (cT 0) 1100 mv), (gH, zaZ (cT 2) 1100 mh)]) H := hP
  have hD : va_D A ([(h0, zoMd mS mQ gK gV gH (mL + 1) mo gM mch mA mP gI gR gT gF gS gE gC mB ml mz), (gK, zaI (cT 0) 1100 (va_up mk (mL + 1) k)), (gV, zaI (cT 0) 1100 mv), (gH, zaZ (cT 2) 1100 mh)]) := hD
  refine lv_aload_n hx hb d_Md_log_20 rfl (lv_at hl 0 rfl) ?_
  refine va_get (D := (dC, dI)) (ci := 6) (v := .ref gV) (C := R_Md) (T := F_Md) (N := 21) hx hb hts i_Md hown hK hP 0 rfl rfl 3 (by decide) (hts _ wd_566) (fun _ h9 => h9) rfl d_Md_log_21 ?_
  refine lv_aload_n hx hb d_Md_log_24 rfl (lv_at hl 0 rfl) ?_
  refine va_get (D := (dC, dI)) (ci := 6) (v := .int (nI (mL + 1))) (C := R_Md) (T := F_Md) (N := 21) hx hb hts i_Md hown hK hP 0 rfl rfl 5 (by decide) (hts _ wd_568) (fun _ h9 => h9) rfl d_Md_log_25 ?_
  refine lv_iload_n hx hb d_Md_log_28 rfl (lv_at hl 2 rfl) ?_
  refine zn_iast hx hb hK hP hD hS 2 0 rfl rfl (i := mL + 1) (x := v) (by omega) (by omega) d_Md_log_29 (fun H locs hP hD hS => ?_)
  have hP : va_P (dC, dI) vwCl ([(h0, zoMd mS mQ gK gV gH (mL + 1) mo gM mch mA mP gI gR gT gF gS gE gC mB ml mz), (gK, zaI (cT 0) 1100 (va_up mk (mL + 1) k)), (gV, zaI (cT 0) 1100 (va_up mv (mL + 1) v)), (gH, zaZ (cT 2) 1100 mh)]) H := hP
  have hD : va_D A ([(h0, zoMd mS mQ gK gV gH (mL + 1) mo gM mch mA mP gI gR gT gF gS gE gC mB ml mz), (gK, zaI (cT 0) 1100 (va_up mk (mL + 1) k)), (gV, zaI (cT 0) 1100 (va_up mv (mL + 1) v)), (gH, zaZ (cT 2) 1100 mh)]) := hD
  refine lv_aload_n hx hb d_Md_log_30 rfl (lv_at hl 0 rfl) ?_
  refine va_get (D := (dC, dI)) (ci := 6) (v := .ref gH) (C := R_Md) (T := F_Md) (N := 21) hx hb hts i_Md hown hK hP 0 rfl rfl 4 (by decide) (hts _ wd_567) (fun _ h9 => h9) rfl d_Md_log_31 ?_
  refine lv_aload_n hx hb d_Md_log_34 rfl (lv_at hl 0 rfl) ?_
  refine va_get (D := (dC, dI)) (ci := 6) (v := .int (nI (mL + 1))) (C := R_Md) (T := F_Md) (N := 21) hx hb hts i_Md hown hK hP 0 rfl rfl 5 (by decide) (hts _ wd_568) (fun _ h9 => h9) rfl d_Md_log_35 ?_
  refine lv_iload_n hx hb d_Md_log_38 rfl (lv_at hl 3 rfl) ?_
  refine zn_zastB hx hb hK hP hD hS 3 2 rfl rfl (i := mL + 1) (x := b) (by omega) (by omega) d_Md_log_39 (fun H locs hP hD hS => ?_)
  have hP : va_P (dC, dI) vwCl ([(h0, zoMd mS mQ gK gV gH (mL + 1) mo gM mch mA mP gI gR gT gF gS gE gC mB ml mz), (gK, zaI (cT 0) 1100 (va_up mk (mL + 1) k)), (gV, zaI (cT 0) 1100 (va_up mv (mL + 1) v)), (gH, zaZ (cT 2) 1100 (va_up mh (mL + 1) b))]) H := hP
  have hD : va_D A ([(h0, zoMd mS mQ gK gV gH (mL + 1) mo gM mch mA mP gI gR gT gF gS gE gC mB ml mz), (gK, zaI (cT 0) 1100 (va_up mk (mL + 1) k)), (gV, zaI (cT 0) 1100 (va_up mv (mL + 1) v)), (gH, zaZ (cT 2) 1100 (va_up mh (mL + 1) b))]) := hD
  refine lv_aload_n hx hb d_Md_log_40 rfl (lv_at hl 0 rfl) ?_
  refine va_get (D := (dC, dI)) (ci := 6) (v := .int (nI (mL + 1))) (C := R_Md) (T := F_Md) (N := 21) hx hb hts i_Md hown hK hP 0 rfl rfl 5 (by decide) (hts _ wd_568) (fun _ h9 => h9) rfl d_Md_log_41 ?_
  have hP9 := hP.sub (ws' := [(h0, zoMd mS mQ gK gV gH (mL + 1) mo gM mch mA mP gI gR gT gF gS gE gC mB ml mz), (gK, zaI (cT 0) 1100 (va_up mk (mL + 1) k)), (gV, zaI (cT 0) 1100 (va_up mv (mL + 1) v)), (gH, zaZ (cT 2) 1100 (va_up mh (mL + 1) b))]) [0, 1, 2, 3] rfl
  have hD9 := hD.sub (ws' := [(h0, zoMd mS mQ gK gV gH (mL + 1) mo gM mch mA mP gI gR gT gF gS gE gC mB ml mz), (gK, zaI (cT 0) 1100 (va_up mk (mL + 1) k)), (gV, zaI (cT 0) 1100 (va_up mv (mL + 1) v)), (gH, zaZ (cT 2) 1100 (va_up mh (mL + 1) b))]) [0, 1, 2, 3] (by decide) rfl
  exact W.iret hx hb hr (fun t ht hW => ⟨⟨(), trivial, rfl, by rw [ht]; exact hP9, hD9⟩, hS.F ht⟩) hS.2.2 d_Md_log_44
set_option maxHeartbeats 4000000 in
set_option maxRecDepth 100000 in
theorem c_Md_after (l : Launch) (dC : Nat → ClassId) (dI : Nat → Nat → Nat) (cT : Nat → ClassId) (h0 : Nat) (mS : Nat) (mQ : Nat) (gK : Nat) (gV : Nat) (gH : Nat) (mL : Nat) (mo : Bool) (gM : Nat) (mch : Nat) (mA : Nat) (mP : Nat) (gI : Nat) (gR : Nat) (gT : Nat) (gF : Nat) (gS : Nat) (gE : Nat) (gC : Nat) (mB : Nat) (ml : Int32) (mz : Int32) (u : Nat) (k : Int32) (mk : Nat → Int32) (mv : Nat → Int32) (mh : Nat → Bool) (hu : u ≤ 1000) : Met l y_Md_after w_Md_after ({ frames := 0, cells := 0, slots := 0, locals := 0 } : Room) (zPreR (dC, dI) vwCl (zT cT) [.ref h0, .int (nI u), .int k] ([(h0, zoMd mS mQ gK gV gH mL mo gM mch mA mP gI gR gT gF gS gE gC mB ml mz), (gK, zaI (cT 0) 1100 mk), (gV, zaI (cT 0) 1100 mv), (gH, zaZ (cT 2) 1100 mh)])) (k2_QcV (.long (zaf mk mv mh k u))) 0 0 (fun _ => False) := by
  refine Met.ofW (cc := b_Md_after) (maxL := 4) (ret := (some .long)) (by decide) rfl ?_
  intro p e s m args below meth c s₁ B hml hv
  obtain ⟨rfl, hP, hK, hE⟩ := hv
  have hx := B.exec
  have hb := B.bytes
  have hr := B.returns
  have hts := fun w h => atoms_spec (ws := w_Md_after) B.pre w (List.mem_cons_of_mem _ h)
  have hown : s.vm.findClass R_Md = some m.cls := findClass_of_methodNamed B.named
  have hlocks := B.notSynchronized
  have hl := lv_entry ([.ref h0, .int (nI u), .int k]) (n := 4) (Nat.le_of_ble_eq_true rfl)
  rw [lg_entry_eq]
  generalize (lg_sl ([.ref h0, .int (nI u), .int k]) ++ List.replicate (4 - (lg_sl ([.ref h0, .int (nI u), .int k])).length) Slot.unset).toArray = ls at hl ⊢
  have hl : lv_has ls 4 [(0, .ref h0), (1, .int (nI u)), (2, .int k)] := hl
  refine lv_iload_n hx hb d_Md_after_0 rfl (lv_at hl 1 rfl) ?_
  refine lv_istore_n (lv' := [(3, .int (nI u)), (0, .ref h0), (1, .int (nI u)), (2, .int k)]) hx hb d_Md_after_1 rfl hl (by decide) rfl (fun ls hl => ?_)
  have loop_2 : ∀ (fu : Nat) (i : Nat), i < fu → (i ≤ u) → (zaf mk mv mh k u = zaf mk mv mh k i) → ∀ (ls : Array Slot), lv_has ls 4 [(0, .ref h0), (2, .int k), (3, .int (nI i))] → W p l e (headSpec w_Md_after ({ frames := 0, cells := 0, slots := 0, locals := 0 } : Room)).room s m ([.ref h0, .int (nI u), .int k] : List Value).toArray below meth c s.heap [] 0 0 (MQ below (k2_QcV (.long (zaf mk mv mh k u))) ([.ref h0, .int (nI u), .int k] : List Value).toArray s 0 0 (fun _ => False)) (F0 m 2 ls []) := by
    intro fu
    induction fu with
    | zero => intro _ hm; exact absurd hm (Nat.not_lt_zero _)
    | succ fu ih_2 =>
      intro i hm_2 h1 h2 ls hl
      refine lv_iload_n hx hb d_Md_after_2 rfl (lv_at hl 2 rfl) ?_
      refine zn_if_le (tgt := 45) hx hb (a := i) (by omega) d_Md_after_3 (by decide) (fun c_3 => ?_) (fun c_3 => ?_)
      · refine lv_ldc2 (v := 1000000000000) hx hb hown (hts _ wd_666) d_Md_after_45 ?_
        exact W.lret hx hb hr (fun t ht hW => ⟨by rw [h2, c_3]; rfl, ht⟩) (fun q h => by cases h) d_Md_after_48
      · refine lv_aload_n hx hb d_Md_after_6 rfl (lv_at hl 0 rfl) ?_
        refine va_get (D := (dC, dI)) (ci := 6) (v := .ref gK) (C := R_Md) (T := F_Md) (N := 21) hx hb hts i_Md hown hK hP 0 rfl rfl 2 (by decide) (hts _ wd_565) (fun _ h9 => h9) rfl d_Md_after_7 ?_
        refine lv_iload_n hx hb d_Md_after_10 rfl (lv_at hl 2 rfl) ?_
        refine zn_iald hx hb hK hP 1 0 rfl rfl (i := i) (by omega) (by omega) d_Md_after_11 ?_
        refine lv_iload_n hx hb d_Md_after_12 rfl (lv_at hl 1 rfl) ?_
        refine lv_icmp_ne (tgt := 39) hx hb d_Md_after_13 (by decide) (fun c_13 => ?_) (fun c_13 => ?_)
        · refine lv_iinc (v := (nI (i - 1))) (lv' := [(3, .int (nI (i - 1))), (0, .ref h0), (2, .int k)]) hx hb d_Md_after_39 hl (k := 2) rfl (sb_m1 (by omega)) (by decide) rfl (fun ls hl => ?_)
          refine lv_goto (tgt := 2) hx hb d_Md_after_42 (by decide) ?_
          exact ih_2 (i - 1) (by omega) (by first | omega | assumption) (by rw [h2, zaf_pos c_3, if_neg c_13]) ls (lv_sub hl [1, 2, 0] rfl)
        · refine lv_aload_n hx hb d_Md_after_16 rfl (lv_at hl 0 rfl) ?_
          refine va_get (D := (dC, dI)) (ci := 6) (v := .ref gH) (C := R_Md) (T := F_Md) (N := 21) hx hb hts i_Md hown hK hP 0 rfl rfl 4 (by decide) (hts _ wd_567) (fun _ h9 => h9) rfl d_Md_after_17 ?_
          refine lv_iload_n hx hb d_Md_after_20 rfl (lv_at hl 2 rfl) ?_
          refine zn_zald hx hb hK hP 3 2 rfl rfl (i := i) (by omega) (by omega) d_Md_after_21 ?_
          refine zb_if_eq (tgt := 35) hx hb d_Md_after_22 (by decide) (fun c_22 => ?_) (fun c_22 => ?_)
          · refine lv_ldc2 (v := 1000000000000) hx hb hown (hts _ wd_666) d_Md_after_35 ?_
            exact W.lret hx hb hr (fun t ht hW => ⟨by rw [h2, zaf_pos c_3, if_pos c_13, if_neg (by rw [c_22]; decide)], ht⟩) (fun q h => by cases h) d_Md_after_38
          · refine lv_aload_n hx hb d_Md_after_25 rfl (lv_at hl 0 rfl) ?_
            refine va_get (D := (dC, dI)) (ci := 6) (v := .ref gV) (C := R_Md) (T := F_Md) (N := 21) hx hb hts i_Md hown hK hP 0 rfl rfl 3 (by decide) (hts _ wd_566) (fun _ h9 => h9) rfl d_Md_after_26 ?_
            refine lv_iload_n hx hb d_Md_after_29 rfl (lv_at hl 2 rfl) ?_
            refine zn_iald hx hb hK hP 2 0 rfl rfl (i := i) (by omega) (by omega) d_Md_after_30 ?_
            refine lv_i2l hx hb d_Md_after_31 rfl ?_
            refine lv_goto (tgt := 38) hx hb d_Md_after_32 (by decide) ?_
            exact W.lret hx hb hr (fun t ht hW => ⟨by rw [h2, zaf_pos c_3, if_pos c_13, if_pos c_22], ht⟩) (fun q h => by cases h) d_Md_after_38
  exact loop_2 (u + 1) u (by omega) (by first | omega | assumption) rfl ls (lv_sub hl [1, 3, 0] rfl)
set_option maxHeartbeats 4000000 in
set_option maxRecDepth 100000 in
theorem c_Md_numberOf (l : Launch) (dC : Nat → ClassId) (dI : Nat → Nat → Nat) (cT : Nat → ClassId) (h0 : Nat) (mS : Nat) (mQ : Nat) (gK : Nat) (gV : Nat) (gH : Nat) (mL : Nat) (mo : Bool) (gM : Nat) (mch : Nat) (mA : Nat) (mP : Nat) (gI : Nat) (gR : Nat) (gT : Nat) (gF : Nat) (gS : Nat) (gE : Nat) (gC : Nat) (mB : Nat) (ml : Int32) (mz : Int32) (pg : Nat) (mk : Nat → Int32) (hL : mL ≤ 1000) (hkey : ∀ i, 1 ≤ i → i ≤ mL → ¬ mk i < 0 → isIn (mk i) 32 = true) (hp : pg < 8) : Met l y_Md_numberOf w_Md_numberOf ({ frames := 0, cells := 0, slots := 0, locals := 0 } : Room) (zPreR (dC, dI) vwCl (zT cT) [.ref h0, .int (nI pg)] ([(h0, zoMd mS mQ gK gV gH mL mo gM mch mA mP gI gR gT gF gS gE gC mB ml mz), (gK, zaI (cT 0) 1100 mk)])) (k2_QcV (.int (nI (znum mk pg mL)))) 0 0 (fun _ => False) := by
  refine Met.ofW (cc := b_Md_numberOf) (maxL := 3) (ret := (some .int)) (by decide) rfl ?_
  intro p e s m args below meth c s₁ B hml hv
  obtain ⟨rfl, hP, hK, hE⟩ := hv
  have hx := B.exec
  have hb := B.bytes
  have hr := B.returns
  have hts := fun w h => atoms_spec (ws := w_Md_numberOf) B.pre w (List.mem_cons_of_mem _ h)
  have hown : s.vm.findClass R_Md = some m.cls := findClass_of_methodNamed B.named
  have hlocks := B.notSynchronized
  have hl := lv_entry ([.ref h0, .int (nI pg)]) (n := 3) (Nat.le_of_ble_eq_true rfl)
  rw [lg_entry_eq]
  generalize (lg_sl ([.ref h0, .int (nI pg)]) ++ List.replicate (3 - (lg_sl ([.ref h0, .int (nI pg)])).length) Slot.unset).toArray = ls at hl ⊢
  have hl : lv_has ls 3 [(0, .ref h0), (1, .int (nI pg))] := hl
  refine lv_aload_n hx hb d_Md_numberOf_0 rfl (lv_at hl 0 rfl) ?_
  refine va_get (D := (dC, dI)) (ci := 6) (v := .int (nI mL)) (C := R_Md) (T := F_Md) (N := 21) hx hb hts i_Md hown hK hP 0 rfl rfl 5 (by decide) (hts _ wd_568) (fun _ h9 => h9) rfl d_Md_numberOf_1 ?_
  refine lv_istore_n (lv' := [(2, .int (nI mL)), (0, .ref h0), (1, .int (nI pg))]) hx hb d_Md_numberOf_4 rfl hl (by decide) rfl (fun ls hl => ?_)
  have loop_5 : ∀ (fu : Nat) (i : Nat), i < fu → (i ≤ mL) → (znum mk pg mL = znum mk pg i) → ∀ (ls : Array Slot), lv_has ls 3 [(0, .ref h0), (1, .int (nI pg)), (2, .int (nI i))] → W p l e (headSpec w_Md_numberOf ({ frames := 0, cells := 0, slots := 0, locals := 0 } : Room)).room s m ([.ref h0, .int (nI pg)] : List Value).toArray below meth c s.heap [] 0 0 (MQ below (k2_QcV (.int (nI (znum mk pg mL)))) ([.ref h0, .int (nI pg)] : List Value).toArray s 0 0 (fun _ => False)) (F0 m 5 ls []) := by
    intro fu
    induction fu with
    | zero => intro _ hm; exact absurd hm (Nat.not_lt_zero _)
    | succ fu ih_5 =>
      intro i hm_5 h1 h2 ls hl
      refine lv_iload_n hx hb d_Md_numberOf_5 rfl (lv_at hl 2 rfl) ?_
      refine zn_if_le (tgt := 38) hx hb (a := i) (by omega) d_Md_numberOf_6 (by decide) (fun c_6 => ?_) (fun c_6 => ?_)
      · refine lv_iconst (v := (nI 0)) hx hb d_Md_numberOf_38 (by decide) ?_
        exact W.iret hx hb hr (fun t ht hW => ⟨by rw [h2, c_6]; rfl, ht⟩) (fun q h => by cases h) d_Md_numberOf_39
      · refine lv_aload_n hx hb d_Md_numberOf_9 rfl (lv_at hl 0 rfl) ?_
        refine va_get (D := (dC, dI)) (ci := 6) (v := .ref gK) (C := R_Md) (T := F_Md) (N := 21) hx hb hts i_Md hown hK hP 0 rfl rfl 2 (by decide) (hts _ wd_565) (fun _ h9 => h9) rfl d_Md_numberOf_10 ?_
        refine lv_iload_n hx hb d_Md_numberOf_13 rfl (lv_at hl 2 rfl) ?_
        refine zn_iald hx hb hK hP 1 0 rfl rfl (i := i) (by omega) (by omega) d_Md_numberOf_14 ?_
        refine lv_if_lt (tgt := 32) hx hb d_Md_numberOf_15 (by decide) (fun c_15 => ?_) (fun c_15 => ?_)
        · refine lv_iinc (v := (nI (i - 1))) (lv' := [(2, .int (nI (i - 1))), (0, .ref h0), (1, .int (nI pg))]) hx hb d_Md_numberOf_32 hl (k := 2) rfl (sb_m1 (by omega)) (by decide) rfl (fun ls hl => ?_)
          refine lv_goto (tgt := 5) hx hb d_Md_numberOf_35 (by decide) ?_
          exact ih_5 (i - 1) (by omega) (by first | omega | assumption) (by rw [h2, znum_pos c_6, if_neg (fun q => by rw [isIn_f1 c_15] at q; exact absurd q.1 (by decide))]) ls (lv_sub hl [1, 2, 0] rfl)
        · refine lv_aload_n hx hb d_Md_numberOf_18 rfl (lv_at hl 0 rfl) ?_
          refine va_get (D := (dC, dI)) (ci := 6) (v := .ref gK) (C := R_Md) (T := F_Md) (N := 21) hx hb hts i_Md hown hK hP 0 rfl rfl 2 (by decide) (hts _ wd_565) (fun _ h9 => h9) rfl d_Md_numberOf_19 ?_
          refine lv_iload_n hx hb d_Md_numberOf_22 rfl (lv_at hl 2 rfl) ?_
          refine zn_iald hx hb hK hP 1 0 rfl rfl (i := i) (by omega) (by omega) d_Md_numberOf_23 ?_
          have h7 := hkey i (by omega) (by omega) c_15
          obtain ⟨hk1, hk2⟩ := isIn_of (by decide) h7
          refine W.eq (congrArg (fun z => F0 m 24 ls [.int z]) hk1) ?_
          refine lv_iconst (v := (nI 4)) hx hb d_Md_numberOf_24 (by decide) ?_
          refine zn_idiv hx hb (by omega) (by omega) (by omega) d_Md_numberOf_25 ?_
          refine lv_iload_n hx hb d_Md_numberOf_26 rfl (lv_at hl 1 rfl) ?_
          refine zn_icmp_ne (tgt := 32) hx hb (a := (kN (mk i)) / 4) (b := pg) (by omega) (by omega) d_Md_numberOf_27 (by decide) (fun c_27 => ?_) (fun c_27 => ?_)
          · refine lv_iinc (v := (nI (i - 1))) (lv' := [(2, .int (nI (i - 1))), (0, .ref h0), (1, .int (nI pg))]) hx hb d_Md_numberOf_32 hl (k := 2) rfl (sb_m1 (by omega)) (by decide) rfl (fun ls hl => ?_)
            refine lv_goto (tgt := 5) hx hb d_Md_numberOf_35 (by decide) ?_
            exact ih_5 (i - 1) (by omega) (by first | omega | assumption) (by rw [h2, znum_pos c_6, if_neg (fun q => c_27 q.2)]) ls (lv_sub hl [1, 2, 0] rfl)
          · refine lv_iload_n hx hb d_Md_numberOf_30 rfl (lv_at hl 2 rfl) ?_
            exact W.iret hx hb hr (fun t ht hW => ⟨by rw [h2, znum_pos c_6, if_pos ⟨h7, c_27⟩], ht⟩) (fun q h => by cases h) d_Md_numberOf_31
  exact loop_5 (mL + 1) mL (by omega) (by first | omega | assumption) rfl ls (lv_sub hl [1, 2, 0] rfl)
set_option maxHeartbeats 4000000 in
set_option maxRecDepth 100000 in
theorem c_Md_changesOn (l : Launch) (dC : Nat → ClassId) (dI : Nat → Nat → Nat) (cT : Nat → ClassId) (h0 : Nat) (mS : Nat) (mQ : Nat) (gK : Nat) (gV : Nat) (gH : Nat) (mL : Nat) (mo : Bool) (gM : Nat) (mch : Nat) (mA : Nat) (mP : Nat) (gI : Nat) (gR : Nat) (gT : Nat) (gF : Nat) (gS : Nat) (gE : Nat) (gC : Nat) (mB : Nat) (ml : Int32) (mz : Int32) (pg : Nat) (a : Nat) (u : Nat) (mk : Nat → Int32) (hL : mL ≤ 1000) (hkey : ∀ i, 1 ≤ i → i ≤ mL → ¬ mk i < 0 → isIn (mk i) 32 = true) (hp : pg < 8) (hu : u ≤ mL) (ha : a ≤ u) : Met l y_Md_changesOn w_Md_changesOn ({ frames := 0, cells := 0, slots := 0, locals := 0 } : Room) (zPreR (dC, dI) vwCl (zT cT) [.ref h0, .int (nI pg), .int (nI a), .int (nI u)] ([(h0, zoMd mS mQ gK gV gH mL mo gM mch mA mP gI gR gT gF gS gE gC mB ml mz), (gK, zaI (cT 0) 1100 mk)])) (k2_QcV (.int (nI (zcho mk pg a u)))) 0 0 (fun _ => False) := by
  refine Met.ofW (cc := b_Md_changesOn) (maxL := 6) (ret := (some .int)) (by decide) rfl ?_
  intro p e s m args below meth c s₁ B hml hv
  obtain ⟨rfl, hP, hK, hE⟩ := hv
  have hx := B.exec
  have hb := B.bytes
  have hr := B.returns
  have hts := fun w h => atoms_spec (ws := w_Md_changesOn) B.pre w (List.mem_cons_of_mem _ h)
  have hown : s.vm.findClass R_Md = some m.cls := findClass_of_methodNamed B.named
  have hlocks := B.notSynchronized
  have hl := lv_entry ([.ref h0, .int (nI pg), .int (nI a), .int (nI u)]) (n := 6) (Nat.le_of_ble_eq_true rfl)
  rw [lg_entry_eq]
  generalize (lg_sl ([.ref h0, .int (nI pg), .int (nI a), .int (nI u)]) ++ List.replicate (6 - (lg_sl ([.ref h0, .int (nI pg), .int (nI a), .int (nI u)])).length) Slot.unset).toArray = ls at hl ⊢
  have hl : lv_has ls 6 [(0, .ref h0), (1, .int (nI pg)), (2, .int (nI a)), (3, .int (nI u))] := hl
  refine lv_iconst (v := (nI 0)) hx hb d_Md_changesOn_0 (by decide) ?_
  refine lv_istore (lv' := [(4, .int (nI 0)), (0, .ref h0), (1, .int (nI pg)), (2, .int (nI a)), (3, .int (nI u))]) hx hb d_Md_changesOn_1 hl (by decide) rfl (fun ls hl => ?_)
  refine lv_iload_n hx hb d_Md_changesOn_3 rfl (lv_at hl 3 rfl) ?_
  refine lv_iconst (v := (nI 1)) hx hb d_Md_changesOn_4 (by decide) ?_
  refine zn_iadd hx hb d_Md_changesOn_5 ?_
  refine lv_istore (lv' := [(5, .int (nI (a + 1))), (4, .int (nI 0)), (0, .ref h0), (1, .int (nI pg)), (2, .int (nI a)), (3, .int (nI u))]) hx hb d_Md_changesOn_6 hl (by decide) rfl (fun ls hl => ?_)
  have loop_8 : ∀ (fu : Nat) (i : Nat) (n : Nat), u + 1 - i < fu → (a + 1 ≤ i) → (i ≤ u + 1) → (n = zcho mk pg a (i - 1)) → (n ≤ i) → ∀ (ls : Array Slot), lv_has ls 6 [(0, .ref h0), (1, .int (nI pg)), (2, .int (nI a)), (3, .int (nI u)), (4, .int (nI n)), (5, .int (nI i))] → W p l e (headSpec w_Md_changesOn ({ frames := 0, cells := 0, slots := 0, locals := 0 } : Room)).room s m ([.ref h0, .int (nI pg), .int (nI a), .int (nI u)] : List Value).toArray below meth c s.heap [] 0 0 (MQ below (k2_QcV (.int (nI (zcho mk pg a u)))) ([.ref h0, .int (nI pg), .int (nI a), .int (nI u)] : List Value).toArray s 0 0 (fun _ => False)) (F0 m 8 ls []) := by
    intro fu
    induction fu with
    | zero => intro _ _ hm; exact absurd hm (Nat.not_lt_zero _)
    | succ fu ih_8 =>
      intro i n hm_8 h1 h2 h3 h4 ls hl
      refine lv_iload hx hb d_Md_changesOn_8 (lv_at hl 5 rfl) ?_
      refine lv_iload_n hx hb d_Md_changesOn_10 rfl (lv_at hl 3 rfl) ?_
      refine zn_icmp_gt (tgt := 46) hx hb (a := i) (b := u) (by omega) (by omega) d_Md_changesOn_11 (by decide) (fun c_11 => ?_) (fun c_11 => ?_)
      · refine lv_iload hx hb d_Md_changesOn_46 (lv_at hl 4 rfl) ?_
        exact W.iret hx hb hr (fun t ht hW => ⟨by rw [h3, show i - 1 = u by omega], ht⟩) (fun q h => by cases h) d_Md_changesOn_48
      · refine lv_aload_n hx hb d_Md_changesOn_14 rfl (lv_at hl 0 rfl) ?_
        refine va_get (D := (dC, dI)) (ci := 6) (v := .ref gK) (C := R_Md) (T := F_Md) (N := 21) hx hb hts i_Md hown hK hP 0 rfl rfl 2 (by decide) (hts _ wd_565) (fun _ h9 => h9) rfl d_Md_changesOn_15 ?_
        refine lv_iload hx hb d_Md_changesOn_18 (lv_at hl 5 rfl) ?_
        refine zn_iald hx hb hK hP 1 0 rfl rfl (i := i) (by omega) (by omega) d_Md_changesOn_20 ?_
        refine lv_if_lt (tgt := 40) hx hb d_Md_changesOn_21 (by decide) (fun c_21 => ?_) (fun c_21 => ?_)
        · refine lv_iinc (v := (nI (i + 1))) (lv' := [(5, .int (nI (i + 1))), (0, .ref h0), (1, .int (nI pg)), (2, .int (nI a)), (3, .int (nI u)), (4, .int (nI n))]) hx hb d_Md_changesOn_40 hl (k := 5) rfl (nI_1 _) (by decide) rfl (fun ls hl => ?_)
          refine lv_goto (tgt := 8) hx hb d_Md_changesOn_43 (by decide) ?_
          exact ih_8 (i + 1) n (by omega) (by first | omega | assumption) (by first | omega | assumption) (by rw [Nat.add_sub_cancel, zcho_pos (by omega), if_neg (fun q => by rw [isIn_f1 c_21] at q; exact absurd q.2.1 (by decide)), h3]; rfl) (by omega) ls (lv_sub hl [1, 2, 3, 4, 5, 0] rfl)
        · refine lv_aload_n hx hb d_Md_changesOn_24 rfl (lv_at hl 0 rfl) ?_
          refine va_get (D := (dC, dI)) (ci := 6) (v := .ref gK) (C := R_Md) (T := F_Md) (N := 21) hx hb hts i_Md hown hK hP 0 rfl rfl 2 (by decide) (hts _ wd_565) (fun _ h9 => h9) rfl d_Md_changesOn_25 ?_
          refine lv_iload hx hb d_Md_changesOn_28 (lv_at hl 5 rfl) ?_
          refine zn_iald hx hb hK hP 1 0 rfl rfl (i := i) (by omega) (by omega) d_Md_changesOn_30 ?_
          have h7 := hkey i (by omega) (by omega) c_21
          obtain ⟨hk1, hk2⟩ := isIn_of (by decide) h7
          refine W.eq (congrArg (fun z => F0 m 31 ls [.int z]) hk1) ?_
          refine lv_iconst (v := (nI 4)) hx hb d_Md_changesOn_31 (by decide) ?_
          refine zn_idiv hx hb (by omega) (by omega) (by omega) d_Md_changesOn_32 ?_
          refine lv_iload_n hx hb d_Md_changesOn_33 rfl (lv_at hl 1 rfl) ?_
          refine zn_icmp_ne (tgt := 40) hx hb (a := (kN (mk i)) / 4) (b := pg) (by omega) (by omega) d_Md_changesOn_34 (by decide) (fun c_34 => ?_) (fun c_34 => ?_)
          · refine lv_iinc (v := (nI (i + 1))) (lv' := [(5, .int (nI (i + 1))), (0, .ref h0), (1, .int (nI pg)), (2, .int (nI a)), (3, .int (nI u)), (4, .int (nI n))]) hx hb d_Md_changesOn_40 hl (k := 5) rfl (nI_1 _) (by decide) rfl (fun ls hl => ?_)
            refine lv_goto (tgt := 8) hx hb d_Md_changesOn_43 (by decide) ?_
            exact ih_8 (i + 1) n (by omega) (by first | omega | assumption) (by first | omega | assumption) (by rw [Nat.add_sub_cancel, zcho_pos (by omega), if_neg (fun q => c_34 q.2.2), h3]; rfl) (by omega) ls (lv_sub hl [1, 2, 3, 4, 5, 0] rfl)
          · refine lv_iinc (v := (nI (n + 1))) (lv' := [(4, .int (nI (n + 1))), (0, .ref h0), (1, .int (nI pg)), (2, .int (nI a)), (3, .int (nI u)), (5, .int (nI i))]) hx hb d_Md_changesOn_37 hl (k := 4) rfl (nI_1 _) (by decide) rfl (fun ls hl => ?_)
            refine lv_iinc (v := (nI (i + 1))) (lv' := [(5, .int (nI (i + 1))), (4, .int (nI (n + 1))), (0, .ref h0), (1, .int (nI pg)), (2, .int (nI a)), (3, .int (nI u))]) hx hb d_Md_changesOn_40 hl (k := 5) rfl (nI_1 _) (by decide) rfl (fun ls hl => ?_)
            refine lv_goto (tgt := 8) hx hb d_Md_changesOn_43 (by decide) ?_
            exact ih_8 (i + 1) (n + 1) (by omega) (by first | omega | assumption) (by first | omega | assumption) (by rw [Nat.add_sub_cancel, zcho_pos (by omega), if_pos ⟨by omega, h7, c_34⟩, h3]) (by omega) ls (lv_sub hl [2, 3, 4, 5, 1, 0] rfl)
  exact loop_8 (u + 1 - (a + 1) + 1) (a + 1) 0 (by omega) (by first | omega | assumption) (by first | omega | assumption) (by rw [Nat.add_sub_cancel, zcho_0 mk pg a a (Nat.le_refl _)]) (by omega) ls (lv_sub hl [2, 3, 4, 5, 1, 0] rfl)
set_option maxHeartbeats 4000000 in
set_option maxRecDepth 100000 in
theorem c_Md_commits (l : Launch) (dC : Nat → ClassId) (dI : Nat → Nat → Nat) (cT : Nat → ClassId) (h0 : Nat) (mS : Nat) (mQ : Nat) (gK : Nat) (gV : Nat) (gH : Nat) (mL : Nat) (mo : Bool) (gM : Nat) (mch : Nat) (mA : Nat) (mP : Nat) (gI : Nat) (gR : Nat) (gT : Nat) (gF : Nat) (gS : Nat) (gE : Nat) (gC : Nat) (mB : Nat) (ml : Int32) (mz : Int32) (mk : Nat → Int32) (hL : mL ≤ 1000) : Met l y_Md_commits w_Md_commits ({ frames := 0, cells := 0, slots := 0, locals := 0 } : Room) (zPreR (dC, dI) vwCl (zT cT) [.ref h0] ([(h0, zoMd mS mQ gK gV gH mL mo gM mch mA mP gI gR gT gF gS gE gC mB ml mz), (gK, zaI (cT 0) 1100 mk)])) (k2_QcV (.int (nI (zcom mk mL)))) 0 0 (fun _ => False) := by
  refine Met.ofW (cc := b_Md_commits) (maxL := 3) (ret := (some .int)) (by decide) rfl ?_
  intro p e s m args below meth c s₁ B hml hv
  obtain ⟨rfl, hP, hK, hE⟩ := hv
  have hx := B.exec
  have hb := B.bytes
  have hr := B.returns
  have hts := fun w h => atoms_spec (ws := w_Md_commits) B.pre w (List.mem_cons_of_mem _ h)
  have hown : s.vm.findClass R_Md = some m.cls := findClass_of_methodNamed B.named
  have hlocks := B.notSynchronized
  have hl := lv_entry ([.ref h0]) (n := 3) (Nat.le_of_ble_eq_true rfl)
  rw [lg_entry_eq]
  generalize (lg_sl ([.ref h0]) ++ List.replicate (3 - (lg_sl ([.ref h0])).length) Slot.unset).toArray = ls at hl ⊢
  have hl : lv_has ls 3 [(0, .ref h0)] := hl
  refine lv_iconst (v := (nI 0)) hx hb d_Md_commits_0 (by decide) ?_
  refine lv_istore_n (lv' := [(1, .int (nI 0)), (0, .ref h0)]) hx hb d_Md_commits_1 rfl hl (by decide) rfl (fun ls hl => ?_)
  refine lv_iconst (v := (nI 1)) hx hb d_Md_commits_2 (by decide) ?_
  refine lv_istore_n (lv' := [(2, .int (nI 1)), (1, .int (nI 0)), (0, .ref h0)]) hx hb d_Md_commits_3 rfl hl (by decide) rfl (fun ls hl => ?_)
  have loop_4 : ∀ (fu : Nat) (i : Nat) (n : Nat), mL + 1 - i < fu → (1 ≤ i) → (i ≤ mL + 1) → (n = zcom mk (i - 1)) → (n ≤ i) → ∀ (ls : Array Slot), lv_has ls 3 [(0, .ref h0), (1, .int (nI n)), (2, .int (nI i))] → W p l e (headSpec w_Md_commits ({ frames := 0, cells := 0, slots := 0, locals := 0 } : Room)).room s m ([.ref h0] : List Value).toArray below meth c s.heap [] 0 0 (MQ below (k2_QcV (.int (nI (zcom mk mL)))) ([.ref h0] : List Value).toArray s 0 0 (fun _ => False)) (F0 m 4 ls []) := by
    intro fu
    induction fu with
    | zero => intro _ _ hm; exact absurd hm (Nat.not_lt_zero _)
    | succ fu ih_4 =>
      intro i n hm_4 h1 h2 h3 h4 ls hl
      refine lv_iload_n hx hb d_Md_commits_4 rfl (lv_at hl 2 rfl) ?_
      refine lv_aload_n hx hb d_Md_commits_5 rfl (lv_at hl 0 rfl) ?_
      refine va_get (D := (dC, dI)) (ci := 6) (v := .int (nI mL)) (C := R_Md) (T := F_Md) (N := 21) hx hb hts i_Md hown hK hP 0 rfl rfl 5 (by decide) (hts _ wd_568) (fun _ h9 => h9) rfl d_Md_commits_6 ?_
      refine zn_icmp_gt (tgt := 31) hx hb (a := i) (b := mL) (by omega) (by omega) d_Md_commits_9 (by decide) (fun c_9 => ?_) (fun c_9 => ?_)
      · refine lv_iload_n hx hb d_Md_commits_31 rfl (lv_at hl 1 rfl) ?_
        exact W.iret hx hb hr (fun t ht hW => ⟨by rw [h3, show i - 1 = mL by omega], ht⟩) (fun q h => by cases h) d_Md_commits_32
      · refine lv_aload_n hx hb d_Md_commits_12 rfl (lv_at hl 0 rfl) ?_
        refine va_get (D := (dC, dI)) (ci := 6) (v := .ref gK) (C := R_Md) (T := F_Md) (N := 21) hx hb hts i_Md hown hK hP 0 rfl rfl 2 (by decide) (hts _ wd_565) (fun _ h9 => h9) rfl d_Md_commits_13 ?_
        refine lv_iload_n hx hb d_Md_commits_16 rfl (lv_at hl 2 rfl) ?_
        refine zn_iald hx hb hK hP 1 0 rfl rfl (i := i) (by omega) (by omega) d_Md_commits_17 ?_
        refine lv_iconst (v := (-1)) hx hb d_Md_commits_18 (by decide) ?_
        refine lv_icmp_ne (tgt := 25) hx hb d_Md_commits_19 (by decide) (fun c_19 => ?_) (fun c_19 => ?_)
        · refine lv_iinc (v := (nI (i + 1))) (lv' := [(2, .int (nI (i + 1))), (0, .ref h0), (1, .int (nI n))]) hx hb d_Md_commits_25 hl (k := 2) rfl (nI_1 _) (by decide) rfl (fun ls hl => ?_)
          refine lv_goto (tgt := 4) hx hb d_Md_commits_28 (by decide) ?_
          exact ih_4 (i + 1) n (by omega) (by first | omega | assumption) (by first | omega | assumption) (by rw [Nat.add_sub_cancel, zcom_pos (by omega), if_neg c_19, h3]; rfl) (by omega) ls (lv_sub hl [1, 2, 0] rfl)
        · refine lv_iinc (v := (nI (n + 1))) (lv' := [(1, .int (nI (n + 1))), (0, .ref h0), (2, .int (nI i))]) hx hb d_Md_commits_22 hl (k := 1) rfl (nI_1 _) (by decide) rfl (fun ls hl => ?_)
          refine lv_iinc (v := (nI (i + 1))) (lv' := [(2, .int (nI (i + 1))), (1, .int (nI (n + 1))), (0, .ref h0)]) hx hb d_Md_commits_25 hl (k := 2) rfl (nI_1 _) (by decide) rfl (fun ls hl => ?_)
          refine lv_goto (tgt := 4) hx hb d_Md_commits_28 (by decide) ?_
          exact ih_4 (i + 1) (n + 1) (by omega) (by first | omega | assumption) (by first | omega | assumption) (by rw [Nat.add_sub_cancel, zcom_pos (by omega), if_pos c_19, h3]) (by omega) ls (lv_sub hl [2, 1, 0] rfl)
  exact loop_4 (mL + 1 - 1 + 1) 1 0 (by omega) (by first | omega | assumption) (by first | omega | assumption) rfl (by omega) ls (lv_sub hl [2, 1, 0] rfl)
set_option maxHeartbeats 4000000 in
set_option maxRecDepth 100000 in
theorem c_Md_fulls (l : Launch) (dC : Nat → ClassId) (dI : Nat → Nat → Nat) (cT : Nat → ClassId) (h0 : Nat) (mS : Nat) (mQ : Nat) (gK : Nat) (gV : Nat) (gH : Nat) (mL : Nat) (mo : Bool) (gM : Nat) (mch : Nat) (mA : Nat) (mP : Nat) (gI : Nat) (gR : Nat) (gT : Nat) (gF : Nat) (gS : Nat) (gE : Nat) (gC : Nat) (mB : Nat) (ml : Int32) (mz : Int32) (mt : Nat → Bool) (mf : Nat → Bool) (hB : mB ≤ 256) : Met l y_Md_fulls w_Md_fulls ({ frames := 0, cells := 0, slots := 0, locals := 0 } : Room) (zPreR (dC, dI) vwCl (zT cT) [.ref h0] ([(h0, zoMd mS mQ gK gV gH mL mo gM mch mA mP gI gR gT gF gS gE gC mB ml mz), (gT, zaZ (cT 2) 260 mt), (gF, zaZ (cT 2) 260 mf)])) (k2_QcV (.int (nI (zful mt mf mB)))) 0 0 (fun _ => False) := by
  refine Met.ofW (cc := b_Md_fulls) (maxL := 3) (ret := (some .int)) (by decide) rfl ?_
  intro p e s m args below meth c s₁ B hml hv
  obtain ⟨rfl, hP, hK, hE⟩ := hv
  have hx := B.exec
  have hb := B.bytes
  have hr := B.returns
  have hts := fun w h => atoms_spec (ws := w_Md_fulls) B.pre w (List.mem_cons_of_mem _ h)
  have hown : s.vm.findClass R_Md = some m.cls := findClass_of_methodNamed B.named
  have hlocks := B.notSynchronized
  have hl := lv_entry ([.ref h0]) (n := 3) (Nat.le_of_ble_eq_true rfl)
  rw [lg_entry_eq]
  generalize (lg_sl ([.ref h0]) ++ List.replicate (3 - (lg_sl ([.ref h0])).length) Slot.unset).toArray = ls at hl ⊢
  have hl : lv_has ls 3 [(0, .ref h0)] := hl
  refine lv_iconst (v := (nI 0)) hx hb d_Md_fulls_0 (by decide) ?_
  refine lv_istore_n (lv' := [(1, .int (nI 0)), (0, .ref h0)]) hx hb d_Md_fulls_1 rfl hl (by decide) rfl (fun ls hl => ?_)
  refine lv_iconst (v := (nI 1)) hx hb d_Md_fulls_2 (by decide) ?_
  refine lv_istore_n (lv' := [(2, .int (nI 1)), (1, .int (nI 0)), (0, .ref h0)]) hx hb d_Md_fulls_3 rfl hl (by decide) rfl (fun ls hl => ?_)
  have loop_4 : ∀ (fu : Nat) (i : Nat) (n : Nat), mB + 1 - i < fu → (1 ≤ i) → (i ≤ mB + 1) → (n = zful mt mf (i - 1)) → (n ≤ i) → ∀ (ls : Array Slot), lv_has ls 3 [(0, .ref h0), (1, .int (nI n)), (2, .int (nI i))] → W p l e (headSpec w_Md_fulls ({ frames := 0, cells := 0, slots := 0, locals := 0 } : Room)).room s m ([.ref h0] : List Value).toArray below meth c s.heap [] 0 0 (MQ below (k2_QcV (.int (nI (zful mt mf mB)))) ([.ref h0] : List Value).toArray s 0 0 (fun _ => False)) (F0 m 4 ls []) := by
    intro fu
    induction fu with
    | zero => intro _ _ hm; exact absurd hm (Nat.not_lt_zero _)
    | succ fu ih_4 =>
      intro i n hm_4 h1 h2 h3 h4 ls hl
      refine lv_iload_n hx hb d_Md_fulls_4 rfl (lv_at hl 2 rfl) ?_
      refine lv_aload_n hx hb d_Md_fulls_5 rfl (lv_at hl 0 rfl) ?_
      refine va_get (D := (dC, dI)) (ci := 6) (v := .int (nI mB)) (C := R_Md) (T := F_Md) (N := 21) hx hb hts i_Md hown hK hP 0 rfl rfl 18 (by decide) (hts _ wd_581) (fun _ h9 => h9) rfl d_Md_fulls_6 ?_
      refine zn_icmp_gt (tgt := 39) hx hb (a := i) (b := mB) (by omega) (by omega) d_Md_fulls_9 (by decide) (fun c_9 => ?_) (fun c_9 => ?_)
      · refine lv_iload_n hx hb d_Md_fulls_39 rfl (lv_at hl 1 rfl) ?_
        exact W.iret hx hb hr (fun t ht hW => ⟨by rw [h3, show i - 1 = mB by omega], ht⟩) (fun q h => by cases h) d_Md_fulls_40
      · refine lv_aload_n hx hb d_Md_fulls_12 rfl (lv_at hl 0 rfl) ?_
        refine va_get (D := (dC, dI)) (ci := 6) (v := .ref gT) (C := R_Md) (T := F_Md) (N := 21) hx hb hts i_Md hown hK hP 0 rfl rfl 13 (by decide) (hts _ wd_576) (fun _ h9 => h9) rfl d_Md_fulls_13 ?_
        refine lv_iload_n hx hb d_Md_fulls_16 rfl (lv_at hl 2 rfl) ?_
        refine zn_zald hx hb hK hP 1 2 rfl rfl (i := i) (by omega) (by omega) d_Md_fulls_17 ?_
        refine zb_if_eq (tgt := 33) hx hb d_Md_fulls_18 (by decide) (fun c_18 => ?_) (fun c_18 => ?_)
        · refine lv_iinc (v := (nI (i + 1))) (lv' := [(2, .int (nI (i + 1))), (0, .ref h0), (1, .int (nI n))]) hx hb d_Md_fulls_33 hl (k := 2) rfl (nI_1 _) (by decide) rfl (fun ls hl => ?_)
          refine lv_goto (tgt := 4) hx hb d_Md_fulls_36 (by decide) ?_
          exact ih_4 (i + 1) n (by omega) (by first | omega | assumption) (by first | omega | assumption) (by rw [Nat.add_sub_cancel, zful_pos (by omega), if_neg (fun q => by rw [c_18] at q; exact absurd q.1 (by decide)), h3]; rfl) (by omega) ls (lv_sub hl [1, 2, 0] rfl)
        · refine lv_aload_n hx hb d_Md_fulls_21 rfl (lv_at hl 0 rfl) ?_
          refine va_get (D := (dC, dI)) (ci := 6) (v := .ref gF) (C := R_Md) (T := F_Md) (N := 21) hx hb hts i_Md hown hK hP 0 rfl rfl 14 (by decide) (hts _ wd_577) (fun _ h9 => h9) rfl d_Md_fulls_22 ?_
          refine lv_iload_n hx hb d_Md_fulls_25 rfl (lv_at hl 2 rfl) ?_
          refine zn_zald hx hb hK hP 2 2 rfl rfl (i := i) (by omega) (by omega) d_Md_fulls_26 ?_
          refine zb_if_eq (tgt := 33) hx hb d_Md_fulls_27 (by decide) (fun c_27 => ?_) (fun c_27 => ?_)
          · refine lv_iinc (v := (nI (i + 1))) (lv' := [(2, .int (nI (i + 1))), (0, .ref h0), (1, .int (nI n))]) hx hb d_Md_fulls_33 hl (k := 2) rfl (nI_1 _) (by decide) rfl (fun ls hl => ?_)
            refine lv_goto (tgt := 4) hx hb d_Md_fulls_36 (by decide) ?_
            exact ih_4 (i + 1) n (by omega) (by first | omega | assumption) (by first | omega | assumption) (by rw [Nat.add_sub_cancel, zful_pos (by omega), if_neg (fun q => by rw [c_27] at q; exact absurd q.2 (by decide)), h3]; rfl) (by omega) ls (lv_sub hl [1, 2, 0] rfl)
          · refine lv_iinc (v := (nI (n + 1))) (lv' := [(1, .int (nI (n + 1))), (0, .ref h0), (2, .int (nI i))]) hx hb d_Md_fulls_30 hl (k := 1) rfl (nI_1 _) (by decide) rfl (fun ls hl => ?_)
            refine lv_iinc (v := (nI (i + 1))) (lv' := [(2, .int (nI (i + 1))), (1, .int (nI (n + 1))), (0, .ref h0)]) hx hb d_Md_fulls_33 hl (k := 2) rfl (nI_1 _) (by decide) rfl (fun ls hl => ?_)
            refine lv_goto (tgt := 4) hx hb d_Md_fulls_36 (by decide) ?_
            exact ih_4 (i + 1) (n + 1) (by omega) (by first | omega | assumption) (by first | omega | assumption) (by rw [Nat.add_sub_cancel, zful_pos (by omega), if_pos ⟨c_18, c_27⟩, h3]) (by omega) ls (lv_sub hl [2, 1, 0] rfl)
  exact loop_4 (mB + 1 - 1 + 1) 1 0 (by omega) (by first | omega | assumption) (by first | omega | assumption) rfl (by omega) ls (lv_sub hl [2, 1, 0] rfl)
set_option maxHeartbeats 4000000 in
set_option maxRecDepth 100000 in
theorem c_Md_firstFull (l : Launch) (dC : Nat → ClassId) (dI : Nat → Nat → Nat) (cT : Nat → ClassId) (h0 : Nat) (mS : Nat) (mQ : Nat) (gK : Nat) (gV : Nat) (gH : Nat) (mL : Nat) (mo : Bool) (gM : Nat) (mch : Nat) (mA : Nat) (mP : Nat) (gI : Nat) (gR : Nat) (gT : Nat) (gF : Nat) (gS : Nat) (gE : Nat) (gC : Nat) (mB : Nat) (ml : Int32) (mz : Int32) (b0 : Nat) (r : Nat) (mt : Nat → Bool) (mf : Nat → Bool) (hB : mB ≤ 256) (h1r : b0 ≤ r) (h2r : r ≤ mB + 1) (h3r : ∀ b, b0 ≤ b → b < r → ¬ (mt b = true ∧ mf b = true)) (h4r : r ≤ mB → mt r = true ∧ mf r = true) : Met l y_Md_firstFull w_Md_firstFull ({ frames := 0, cells := 0, slots := 0, locals := 0 } : Room) (zPreR (dC, dI) vwCl (zT cT) [.ref h0, .int (nI b0)] ([(h0, zoMd mS mQ gK gV gH mL mo gM mch mA mP gI gR gT gF gS gE gC mB ml mz), (gT, zaZ (cT 2) 260 mt), (gF, zaZ (cT 2) 260 mf)])) (k2_QcV (.int (nI r))) 0 0 (fun _ => False) := by
  refine Met.ofW (cc := b_Md_firstFull) (maxL := 3) (ret := (some .int)) (by decide) rfl ?_
  intro p e s m args below meth c s₁ B hml hv
  obtain ⟨rfl, hP, hK, hE⟩ := hv
  have hx := B.exec
  have hb := B.bytes
  have hr := B.returns
  have hts := fun w h => atoms_spec (ws := w_Md_firstFull) B.pre w (List.mem_cons_of_mem _ h)
  have hown : s.vm.findClass R_Md = some m.cls := findClass_of_methodNamed B.named
  have hlocks := B.notSynchronized
  have hl := lv_entry ([.ref h0, .int (nI b0)]) (n := 3) (Nat.le_of_ble_eq_true rfl)
  rw [lg_entry_eq]
  generalize (lg_sl ([.ref h0, .int (nI b0)]) ++ List.replicate (3 - (lg_sl ([.ref h0, .int (nI b0)])).length) Slot.unset).toArray = ls at hl ⊢
  have hl : lv_has ls 3 [(0, .ref h0), (1, .int (nI b0))] := hl
  refine lv_iload_n hx hb d_Md_firstFull_0 rfl (lv_at hl 1 rfl) ?_
  refine lv_istore_n (lv' := [(2, .int (nI b0)), (0, .ref h0), (1, .int (nI b0))]) hx hb d_Md_firstFull_1 rfl hl (by decide) rfl (fun ls hl => ?_)
  have loop_2 : ∀ (fu : Nat) (i : Nat), r - i < fu → (b0 ≤ i) → (i ≤ r) → ∀ (ls : Array Slot), lv_has ls 3 [(0, .ref h0), (1, .int (nI b0)), (2, .int (nI i))] → W p l e (headSpec w_Md_firstFull ({ frames := 0, cells := 0, slots := 0, locals := 0 } : Room)).room s m ([.ref h0, .int (nI b0)] : List Value).toArray below meth c s.heap [] 0 0 (MQ below (k2_QcV (.int (nI r))) ([.ref h0, .int (nI b0)] : List Value).toArray s 0 0 (fun _ => False)) (F0 m 2 ls []) := by
    intro fu
    induction fu with
    | zero => intro _ hm; exact absurd hm (Nat.not_lt_zero _)
    | succ fu ih_2 =>
      intro i hm_2 h1 h2 ls hl
      refine lv_iload_n hx hb d_Md_firstFull_2 rfl (lv_at hl 2 rfl) ?_
      refine lv_aload_n hx hb d_Md_firstFull_3 rfl (lv_at hl 0 rfl) ?_
      refine va_get (D := (dC, dI)) (ci := 6) (v := .int (nI mB)) (C := R_Md) (T := F_Md) (N := 21) hx hb hts i_Md hown hK hP 0 rfl rfl 18 (by decide) (hts _ wd_581) (fun _ h9 => h9) rfl d_Md_firstFull_4 ?_
      refine zn_icmp_gt (tgt := 36) hx hb (a := i) (b := mB) (by omega) (by omega) d_Md_firstFull_7 (by decide) (fun c_7 => ?_) (fun c_7 => ?_)
      · refine lv_aload_n hx hb d_Md_firstFull_36 rfl (lv_at hl 0 rfl) ?_
        refine va_get (D := (dC, dI)) (ci := 6) (v := .int (nI mB)) (C := R_Md) (T := F_Md) (N := 21) hx hb hts i_Md hown hK hP 0 rfl rfl 18 (by decide) (hts _ wd_581) (fun _ h9 => h9) rfl d_Md_firstFull_37 ?_
        refine lv_iconst (v := (nI 1)) hx hb d_Md_firstFull_40 (by decide) ?_
        refine zn_iadd hx hb d_Md_firstFull_41 ?_
        exact W.iret hx hb hr (fun t ht hW => ⟨by rw [show mB + 1 = r by omega], ht⟩) (fun q h => by cases h) d_Md_firstFull_42
      · refine lv_aload_n hx hb d_Md_firstFull_10 rfl (lv_at hl 0 rfl) ?_
        refine va_get (D := (dC, dI)) (ci := 6) (v := .ref gT) (C := R_Md) (T := F_Md) (N := 21) hx hb hts i_Md hown hK hP 0 rfl rfl 13 (by decide) (hts _ wd_576) (fun _ h9 => h9) rfl d_Md_firstFull_11 ?_
        refine lv_iload_n hx hb d_Md_firstFull_14 rfl (lv_at hl 2 rfl) ?_
        refine zn_zald hx hb hK hP 1 2 rfl rfl (i := i) (by omega) (by omega) d_Md_firstFull_15 ?_
        refine zb_if_eq (tgt := 30) hx hb d_Md_firstFull_16 (by decide) (fun c_16 => ?_) (fun c_16 => ?_)
        · have h6 : i < r := by rcases Nat.lt_or_ge i r with q | q; exact q; exact absurd (h4r (by omega)) (fun z => by rw [show r = i by omega, c_16] at z; exact absurd z.1 (by decide))
          refine lv_iinc (v := (nI (i + 1))) (lv' := [(2, .int (nI (i + 1))), (0, .ref h0), (1, .int (nI b0))]) hx hb d_Md_firstFull_30 hl (k := 2) rfl (nI_1 _) (by decide) rfl (fun ls hl => ?_)
          refine lv_goto (tgt := 2) hx hb d_Md_firstFull_33 (by decide) ?_
          exact ih_2 (i + 1) (by omega) (by first | omega | assumption) (by first | omega | assumption) ls (lv_sub hl [1, 2, 0] rfl)
        · refine lv_aload_n hx hb d_Md_firstFull_19 rfl (lv_at hl 0 rfl) ?_
          refine va_get (D := (dC, dI)) (ci := 6) (v := .ref gF) (C := R_Md) (T := F_Md) (N := 21) hx hb hts i_Md hown hK hP 0 rfl rfl 14 (by decide) (hts _ wd_577) (fun _ h9 => h9) rfl d_Md_firstFull_20 ?_
          refine lv_iload_n hx hb d_Md_firstFull_23 rfl (lv_at hl 2 rfl) ?_
          refine zn_zald hx hb hK hP 2 2 rfl rfl (i := i) (by omega) (by omega) d_Md_firstFull_24 ?_
          refine zb_if_eq (tgt := 30) hx hb d_Md_firstFull_25 (by decide) (fun c_25 => ?_) (fun c_25 => ?_)
          · have h6 : i < r := by rcases Nat.lt_or_ge i r with q | q; exact q; exact absurd (h4r (by omega)) (fun z => by rw [show r = i by omega, c_25] at z; exact absurd z.2 (by decide))
            refine lv_iinc (v := (nI (i + 1))) (lv' := [(2, .int (nI (i + 1))), (0, .ref h0), (1, .int (nI b0))]) hx hb d_Md_firstFull_30 hl (k := 2) rfl (nI_1 _) (by decide) rfl (fun ls hl => ?_)
            refine lv_goto (tgt := 2) hx hb d_Md_firstFull_33 (by decide) ?_
            exact ih_2 (i + 1) (by omega) (by first | omega | assumption) (by first | omega | assumption) ls (lv_sub hl [1, 2, 0] rfl)
          · refine lv_iload_n hx hb d_Md_firstFull_28 rfl (lv_at hl 2 rfl) ?_
            exact W.iret hx hb hr (fun t ht hW => ⟨by rw [show i = r from by rcases Nat.lt_or_ge i r with q | q; exact absurd ⟨c_16, c_25⟩ (h3r i h1 q); omega], ht⟩) (fun q h => by cases h) d_Md_firstFull_29
  exact loop_2 (r - b0 + 1) b0 (by omega) (by first | omega | assumption) (by first | omega | assumption) ls (lv_sub hl [1, 2, 0] rfl)
set_option maxHeartbeats 4000000 in
set_option maxRecDepth 100000 in
theorem c_Md_commitRecord (l : Launch) (dC : Nat → ClassId) (dI : Nat → Nat → Nat) (cT : Nat → ClassId) (h0 : Nat) (mS : Nat) (mQ : Nat) (gK : Nat) (gV : Nat) (gH : Nat) (mL : Nat) (mo : Bool) (gM : Nat) (mch : Nat) (mA : Nat) (mP : Nat) (gI : Nat) (gR : Nat) (gT : Nat) (gF : Nat) (gS : Nat) (gE : Nat) (gC : Nat) (mB : Nat) (ml : Int32) (mz : Int32) (k : Nat) (r : Nat) (mk : Nat → Int32) (hL : mL ≤ 1000) (h1r : 1 ≤ r) (hrL : r ≤ mL) (hk0 : 0 < k) (hkr : zcom mk r = k) (hlt : ∀ j, j < r → zcom mk j < k) : Met l y_Md_commitRecord w_Md_commitRecord ({ frames := 0, cells := 0, slots := 0, locals := 0 } : Room) (zPreR (dC, dI) vwCl (zT cT) [.ref h0, .int (nI k)] ([(h0, zoMd mS mQ gK gV gH mL mo gM mch mA mP gI gR gT gF gS gE gC mB ml mz), (gK, zaI (cT 0) 1100 mk)])) (k2_QcV (.int (nI r))) 0 0 (fun _ => False) := by
  refine Met.ofW (cc := b_Md_commitRecord) (maxL := 4) (ret := (some .int)) (by decide) rfl ?_
  intro p e s m args below meth c s₁ B hml hv
  obtain ⟨rfl, hP, hK, hE⟩ := hv
  have hx := B.exec
  have hb := B.bytes
  have hr := B.returns
  have hts := fun w h => atoms_spec (ws := w_Md_commitRecord) B.pre w (List.mem_cons_of_mem _ h)
  have hown : s.vm.findClass R_Md = some m.cls := findClass_of_methodNamed B.named
  have hlocks := B.notSynchronized
  have hl := lv_entry ([.ref h0, .int (nI k)]) (n := 4) (Nat.le_of_ble_eq_true rfl)
  rw [lg_entry_eq]
  generalize (lg_sl ([.ref h0, .int (nI k)]) ++ List.replicate (4 - (lg_sl ([.ref h0, .int (nI k)])).length) Slot.unset).toArray = ls at hl ⊢
  have hl : lv_has ls 4 [(0, .ref h0), (1, .int (nI k))] := hl
  refine lv_iconst (v := (nI 0)) hx hb d_Md_commitRecord_0 (by decide) ?_
  refine lv_istore_n (lv' := [(2, .int (nI 0)), (0, .ref h0), (1, .int (nI k))]) hx hb d_Md_commitRecord_1 rfl hl (by decide) rfl (fun ls hl => ?_)
  refine lv_iconst (v := (nI 1)) hx hb d_Md_commitRecord_2 (by decide) ?_
  refine lv_istore_n (lv' := [(3, .int (nI 1)), (2, .int (nI 0)), (0, .ref h0), (1, .int (nI k))]) hx hb d_Md_commitRecord_3 rfl hl (by decide) rfl (fun ls hl => ?_)
  have loop_4 : ∀ (fu : Nat) (i : Nat) (a : Nat), r - i < fu → (1 ≤ i) → (i ≤ r) → (a = zcom mk (i - 1)) → (a ≤ i) → ∀ (ls : Array Slot), lv_has ls 4 [(0, .ref h0), (1, .int (nI k)), (2, .int (nI a)), (3, .int (nI i))] → W p l e (headSpec w_Md_commitRecord ({ frames := 0, cells := 0, slots := 0, locals := 0 } : Room)).room s m ([.ref h0, .int (nI k)] : List Value).toArray below meth c s.heap [] 0 0 (MQ below (k2_QcV (.int (nI r))) ([.ref h0, .int (nI k)] : List Value).toArray s 0 0 (fun _ => False)) (F0 m 4 ls []) := by
    intro fu
    induction fu with
    | zero => intro _ _ hm; exact absurd hm (Nat.not_lt_zero _)
    | succ fu ih_4 =>
      intro i a hm_4 h1 h2 h3 h4 ls hl
      refine lv_iload_n hx hb d_Md_commitRecord_4 rfl (lv_at hl 3 rfl) ?_
      refine lv_aload_n hx hb d_Md_commitRecord_5 rfl (lv_at hl 0 rfl) ?_
      refine va_get (D := (dC, dI)) (ci := 6) (v := .int (nI mL)) (C := R_Md) (T := F_Md) (N := 21) hx hb hts i_Md hown hK hP 0 rfl rfl 5 (by decide) (hts _ wd_568) (fun _ h9 => h9) rfl d_Md_commitRecord_6 ?_
      refine zn_icmp_gt (tgt := 38) hx hb (a := i) (b := mL) (by omega) (by omega) d_Md_commitRecord_9 (by decide) (fun c_9 => absurd c_9 (by omega)) (fun c_9 => ?_)
      refine lv_aload_n hx hb d_Md_commitRecord_12 rfl (lv_at hl 0 rfl) ?_
      refine va_get (D := (dC, dI)) (ci := 6) (v := .ref gK) (C := R_Md) (T := F_Md) (N := 21) hx hb hts i_Md hown hK hP 0 rfl rfl 2 (by decide) (hts _ wd_565) (fun _ h9 => h9) rfl d_Md_commitRecord_13 ?_
      refine lv_iload_n hx hb d_Md_commitRecord_16 rfl (lv_at hl 3 rfl) ?_
      refine zn_iald hx hb hK hP 1 0 rfl rfl (i := i) (by omega) (by omega) d_Md_commitRecord_17 ?_
      refine lv_iconst (v := (-1)) hx hb d_Md_commitRecord_18 (by decide) ?_
      refine lv_icmp_ne (tgt := 25) hx hb d_Md_commitRecord_19 (by decide) (fun c_19 => ?_) (fun c_19 => ?_)
      · have h5 : a = zcom mk i := by rw [zcom_pos (by omega), if_neg c_19, h3]; rfl
        have h7 : a ≤ 1000 := by have := zcom_le mk i; omega
        have h8 : k ≤ 1001 := by rw [← hkr]; have := zcom_le mk r; omega
        refine lv_iload_n hx hb d_Md_commitRecord_25 rfl (lv_at hl 2 rfl) ?_
        refine lv_iload_n hx hb d_Md_commitRecord_26 rfl (lv_at hl 1 rfl) ?_
        refine zn_icmp_ne (tgt := 32) hx hb (a := a) (b := k) (by omega) (by omega) d_Md_commitRecord_27 (by decide) (fun c_27 => ?_) (fun c_27 => ?_)
        · have h6 : i < r := by
            rcases Nat.lt_or_ge i r with q | q
            · exact q
            · exact absurd (by rw [h5, show i = r by omega, hkr]) c_27
          refine lv_iinc (v := (nI (i + 1))) (lv' := [(3, .int (nI (i + 1))), (0, .ref h0), (1, .int (nI k)), (2, .int (nI a))]) hx hb d_Md_commitRecord_32 hl (k := 3) rfl (nI_1 _) (by decide) rfl (fun ls hl => ?_)
          refine lv_goto (tgt := 4) hx hb d_Md_commitRecord_35 (by decide) ?_
          exact ih_4 (i + 1) a (by omega) (by first | omega | assumption) (by first | omega | assumption) (by rw [Nat.add_sub_cancel]; exact h5) (by omega) ls (lv_sub hl [1, 2, 3, 0] rfl)
        · refine lv_iload_n hx hb d_Md_commitRecord_30 rfl (lv_at hl 3 rfl) ?_
          exact W.iret hx hb hr (fun t ht hW => ⟨by rw [show i = r from by rcases Nat.lt_or_ge i r with q | q; exact absurd (hlt i q) (by omega); omega], ht⟩) (fun q h => by cases h) d_Md_commitRecord_31
      · refine lv_iinc (v := (nI (a + 1))) (lv' := [(2, .int (nI (a + 1))), (0, .ref h0), (1, .int (nI k)), (3, .int (nI i))]) hx hb d_Md_commitRecord_22 hl (k := 2) rfl (nI_1 _) (by decide) rfl (fun ls hl => ?_)
        have h5 : a + 1 = zcom mk i := by rw [zcom_pos (by omega), if_pos c_19, h3]
        have h7 : a + 1 ≤ 1000 := by have := zcom_le mk i; omega
        have h8 : k ≤ 1001 := by rw [← hkr]; have := zcom_le mk r; omega
        refine lv_iload_n hx hb d_Md_commitRecord_25 rfl (lv_at hl 0 rfl) ?_
        refine lv_iload_n hx hb d_Md_commitRecord_26 rfl (lv_at hl 2 rfl) ?_
        refine zn_icmp_ne (tgt := 32) hx hb (a := a + 1) (b := k) (by omega) (by omega) d_Md_commitRecord_27 (by decide) (fun c_27 => ?_) (fun c_27 => ?_)
        · have h6 : i < r := by
            rcases Nat.lt_or_ge i r with q | q
            · exact q
            · exact absurd (by rw [h5, show i = r by omega, hkr]) c_27
          refine lv_iinc (v := (nI (i + 1))) (lv' := [(3, .int (nI (i + 1))), (2, .int (nI (a + 1))), (0, .ref h0), (1, .int (nI k))]) hx hb d_Md_commitRecord_32 hl (k := 3) rfl (nI_1 _) (by decide) rfl (fun ls hl => ?_)
          refine lv_goto (tgt := 4) hx hb d_Md_commitRecord_35 (by decide) ?_
          exact ih_4 (i + 1) (a + 1) (by omega) (by first | omega | assumption) (by first | omega | assumption) (by rw [Nat.add_sub_cancel]; exact h5) (by omega) ls (lv_sub hl [2, 3, 1, 0] rfl)
        · refine lv_iload_n hx hb d_Md_commitRecord_30 rfl (lv_at hl 3 rfl) ?_
          exact W.iret hx hb hr (fun t ht hW => ⟨by rw [show i = r from by rcases Nat.lt_or_ge i r with q | q; exact absurd (hlt i q) (by omega); omega], ht⟩) (fun q h => by cases h) d_Md_commitRecord_31
  exact loop_4 (r - 1 + 1) 1 0 (by omega) (by first | omega | assumption) (by first | omega | assumption) rfl (by omega) ls (lv_sub hl [2, 3, 1, 0] rfl)
set_option maxHeartbeats 4000000 in
set_option maxRecDepth 100000 in
theorem c_Md_best (l : Launch) (dC : Nat → ClassId) (dI : Nat → Nat → Nat) (cT : Nat → ClassId) (h0 : Nat) (mS : Nat) (mQ : Nat) (gK : Nat) (gV : Nat) (gH : Nat) (mL : Nat) (mo : Bool) (gM : Nat) (mch : Nat) (mA : Nat) (mP : Nat) (gI : Nat) (gR : Nat) (gT : Nat) (gF : Nat) (gS : Nat) (gE : Nat) (gC : Nat) (mB : Nat) (ml : Int32) (mz : Int32) (pg : Nat) (mr : Nat → Bool) (mi : Nat → Nat) (mt : Nat → Bool) (cp : Nat → Int32) (hB : mB ≤ 256) (hcp : ∀ j, okc (cp j)) (hp : pg < 8) (hi0 : mi pg ≤ 1000) : Met l y_Md_best w_Md_best ({ frames := 0, cells := 0, slots := 0, locals := 0 } : Room) (zPreR (dC, dI) vwCl (zT cT) [.ref h0, .int (nI pg)] ([(h0, zoMd mS mQ gK gV gH mL mo gM mch mA mP gI gR gT gF gS gE gC mB ml mz), (gR, zaZ (cT 2) 8 mr), (gI, zaN (cT 0) 8 mi), (gT, zaZ (cT 2) 260 mt), (gC, zaI (cT 0) 2080 cp)])) (k2_QcV (.int (nI (zbst mt cp pg (if mr pg = true then mi pg else 0) mB)))) 0 0 (fun _ => False) := by
  refine Met.ofW (cc := b_Md_best) (maxL := 4) (ret := (some .int)) (by decide) rfl ?_
  intro p e s m args below meth c s₁ B hml hv
  obtain ⟨rfl, hP, hK, hE⟩ := hv
  have hx := B.exec
  have hb := B.bytes
  have hr := B.returns
  have hts := fun w h => atoms_spec (ws := w_Md_best) B.pre w (List.mem_cons_of_mem _ h)
  have hown : s.vm.findClass R_Md = some m.cls := findClass_of_methodNamed B.named
  have hlocks := B.notSynchronized
  have hl := lv_entry ([.ref h0, .int (nI pg)]) (n := 4) (Nat.le_of_ble_eq_true rfl)
  rw [lg_entry_eq]
  generalize (lg_sl ([.ref h0, .int (nI pg)]) ++ List.replicate (4 - (lg_sl ([.ref h0, .int (nI pg)])).length) Slot.unset).toArray = ls at hl ⊢
  have hl : lv_has ls 4 [(0, .ref h0), (1, .int (nI pg))] := hl
  refine lv_aload_n hx hb d_Md_best_0 rfl (lv_at hl 0 rfl) ?_
  refine va_get (D := (dC, dI)) (ci := 6) (v := .ref gR) (C := R_Md) (T := F_Md) (N := 21) hx hb hts i_Md hown hK hP 0 rfl rfl 12 (by decide) (hts _ wd_575) (fun _ h9 => h9) rfl d_Md_best_1 ?_
  refine lv_iload_n hx hb d_Md_best_4 rfl (lv_at hl 1 rfl) ?_
  refine zn_zald hx hb hK hP 1 2 rfl rfl (i := pg) (by omega) (by omega) d_Md_best_5 ?_
  refine zb_if_eq (tgt := 18) hx hb d_Md_best_6 (by decide) (fun c_6 => ?_) (fun c_6 => ?_)
  · refine lv_iconst (v := (nI 0)) hx hb d_Md_best_18 (by decide) ?_
    refine lv_istore_n (lv' := [(2, .int (nI 0)), (0, .ref h0), (1, .int (nI pg))]) hx hb d_Md_best_19 rfl hl (by decide) rfl (fun ls hl => ?_)
    refine lv_iconst (v := (nI 1)) hx hb d_Md_best_20 (by decide) ?_
    refine lv_istore_n (lv' := [(3, .int (nI 1)), (2, .int (nI 0)), (0, .ref h0), (1, .int (nI pg))]) hx hb d_Md_best_21 rfl hl (by decide) rfl (fun ls hl => ?_)
    have loop_22 : ∀ (fu : Nat) (i : Nat) (n : Nat), mB + 1 - i < fu → (1 ≤ i) → (i ≤ mB + 1) → (n = zbst mt cp pg (if mr pg = true then mi pg else 0) (i - 1)) → (n ≤ 1000) → ∀ (ls : Array Slot), lv_has ls 4 [(0, .ref h0), (1, .int (nI pg)), (2, .int (nI n)), (3, .int (nI i))] → W p l e (headSpec w_Md_best ({ frames := 0, cells := 0, slots := 0, locals := 0 } : Room)).room s m ([.ref h0, .int (nI pg)] : List Value).toArray below meth c s.heap [] 0 0 (MQ below (k2_QcV (.int (nI (zbst mt cp pg (if mr pg = true then mi pg else 0) mB)))) ([.ref h0, .int (nI pg)] : List Value).toArray s 0 0 (fun _ => False)) (F0 m 22 ls []) := by
      intro fu
      induction fu with
      | zero => intro _ _ hm; exact absurd hm (Nat.not_lt_zero _)
      | succ fu ih_22 =>
        intro i n hm_22 h1 h2 h3 h4 ls hl
        refine lv_iload_n hx hb d_Md_best_22 rfl (lv_at hl 3 rfl) ?_
        refine lv_aload_n hx hb d_Md_best_23 rfl (lv_at hl 0 rfl) ?_
        refine va_get (D := (dC, dI)) (ci := 6) (v := .int (nI mB)) (C := R_Md) (T := F_Md) (N := 21) hx hb hts i_Md hown hK hP 0 rfl rfl 18 (by decide) (hts _ wd_581) (fun _ h9 => h9) rfl d_Md_best_24 ?_
        refine zn_icmp_gt (tgt := 72) hx hb (a := i) (b := mB) (by omega) (by omega) d_Md_best_27 (by decide) (fun c_27 => ?_) (fun c_27 => ?_)
        · refine lv_iload_n hx hb d_Md_best_72 rfl (lv_at hl 2 rfl) ?_
          exact W.iret hx hb hr (fun t ht hW => ⟨by rw [h3, show i - 1 = mB by omega], ht⟩) (fun q h => by cases h) d_Md_best_73
        · refine lv_aload_n hx hb d_Md_best_30 rfl (lv_at hl 0 rfl) ?_
          refine va_get (D := (dC, dI)) (ci := 6) (v := .ref gT) (C := R_Md) (T := F_Md) (N := 21) hx hb hts i_Md hown hK hP 0 rfl rfl 13 (by decide) (hts _ wd_576) (fun _ h9 => h9) rfl d_Md_best_31 ?_
          refine lv_iload_n hx hb d_Md_best_34 rfl (lv_at hl 3 rfl) ?_
          refine zn_zald hx hb hK hP 3 2 rfl rfl (i := i) (by omega) (by omega) d_Md_best_35 ?_
          refine zb_if_eq (tgt := 66) hx hb d_Md_best_36 (by decide) (fun c_36 => ?_) (fun c_36 => ?_)
          · refine lv_iinc (v := (nI (i + 1))) (lv' := [(3, .int (nI (i + 1))), (0, .ref h0), (1, .int (nI pg)), (2, .int (nI n))]) hx hb d_Md_best_66 hl (k := 3) rfl (nI_1 _) (by decide) rfl (fun ls hl => ?_)
            refine lv_goto (tgt := 22) hx hb d_Md_best_69 (by decide) ?_
            exact ih_22 (i + 1) n (by omega) (by first | omega | assumption) (by first | omega | assumption) (by rw [Nat.add_sub_cancel, zbst_pos (by omega), if_neg (by rw [c_36]; decide)]; exact h3) (by omega) ls (lv_sub hl [1, 2, 3, 0] rfl)
          · refine lv_aload_n hx hb d_Md_best_39 rfl (lv_at hl 0 rfl) ?_
            refine va_get (D := (dC, dI)) (ci := 6) (v := .ref gC) (C := R_Md) (T := F_Md) (N := 21) hx hb hts i_Md hown hK hP 0 rfl rfl 17 (by decide) (hts _ wd_580) (fun _ h9 => h9) rfl d_Md_best_40 ?_
            refine lv_iload_n hx hb d_Md_best_43 rfl (lv_at hl 3 rfl) ?_
            refine lv_bipush (v := (nI 8)) hx hb d_Md_best_44 (by decide) ?_
            refine zn_imul hx hb d_Md_best_46 ?_
            refine lv_iload_n hx hb d_Md_best_47 rfl (lv_at hl 1 rfl) ?_
            refine zn_iadd hx hb d_Md_best_48 ?_
            refine zn_iald hx hb hK hP 4 0 rfl rfl (i := (i * 8) + pg) (by omega) (by omega) d_Md_best_49 ?_
            refine lv_iload_n hx hb d_Md_best_50 rfl (lv_at hl 2 rfl) ?_
            refine lv_icmp_le (tgt := 66) hx hb d_Md_best_51 (by decide) (fun c_51 => ?_) (fun c_51 => ?_)
            · have h7 := (okc_le (hcp (i * 8 + pg)) (by omega)).mp c_51
              refine lv_iinc (v := (nI (i + 1))) (lv' := [(3, .int (nI (i + 1))), (0, .ref h0), (1, .int (nI pg)), (2, .int (nI n))]) hx hb d_Md_best_66 hl (k := 3) rfl (nI_1 _) (by decide) rfl (fun ls hl => ?_)
              refine lv_goto (tgt := 22) hx hb d_Md_best_69 (by decide) ?_
              exact ih_22 (i + 1) n (by omega) (by first | omega | assumption) (by first | omega | assumption) (by rw [Nat.add_sub_cancel, zbst_pos (by omega), if_pos c_36, ← h3, Nat.max_eq_left h7]) (by omega) ls (lv_sub hl [1, 2, 3, 0] rfl)
            · refine lv_aload_n hx hb d_Md_best_54 rfl (lv_at hl 0 rfl) ?_
              refine va_get (D := (dC, dI)) (ci := 6) (v := .ref gC) (C := R_Md) (T := F_Md) (N := 21) hx hb hts i_Md hown hK hP 0 rfl rfl 17 (by decide) (hts _ wd_580) (fun _ h9 => h9) rfl d_Md_best_55 ?_
              refine lv_iload_n hx hb d_Md_best_58 rfl (lv_at hl 3 rfl) ?_
              refine lv_bipush (v := (nI 8)) hx hb d_Md_best_59 (by decide) ?_
              refine zn_imul hx hb d_Md_best_61 ?_
              refine lv_iload_n hx hb d_Md_best_62 rfl (lv_at hl 1 rfl) ?_
              refine zn_iadd hx hb d_Md_best_63 ?_
              refine zn_iald hx hb hK hP 4 0 rfl rfl (i := (i * 8) + pg) (by omega) (by omega) d_Md_best_64 ?_
              refine lv_istore_n (lv' := [(2, .int (cp ((i * 8) + pg))), (0, .ref h0), (1, .int (nI pg)), (3, .int (nI i))]) hx hb d_Md_best_65 rfl hl (by decide) rfl (fun ls hl => ?_)
              have h7 : ¬ kN (cp (i * 8 + pg)) ≤ n := fun q => c_51 ((okc_le (hcp (i * 8 + pg)) (by omega)).mpr q)
              obtain ⟨h8, h9⟩ : cp (i * 8 + pg) = nI (kN (cp (i * 8 + pg))) ∧ kN (cp (i * 8 + pg)) ≤ 1000 := by
                rcases hcp (i * 8 + pg) with q | q
                · rw [q, kN_m1] at h7; omega
                · exact q
              have hl : lv_has ls 4 [(2, .int (nI (kN (cp (i * 8 + pg))))), (0, .ref h0), (1, .int (nI pg)), (3, .int (nI i))] := by rw [← h8]; exact hl
              refine lv_iinc (v := (nI (i + 1))) (lv' := [(3, .int (nI (i + 1))), (2, .int (nI (kN (cp (i * 8 + pg))))), (0, .ref h0), (1, .int (nI pg))]) hx hb d_Md_best_66 hl (k := 3) rfl (nI_1 _) (by decide) rfl (fun ls hl => ?_)
              refine lv_goto (tgt := 22) hx hb d_Md_best_69 (by decide) ?_
              exact ih_22 (i + 1) (kN (cp (i * 8 + pg))) (by omega) (by first | omega | assumption) (by first | omega | assumption) (by rw [Nat.add_sub_cancel, zbst_pos (by omega), if_pos c_36, ← h3, Nat.max_eq_right (by omega)]) (by omega) ls (lv_sub hl [2, 3, 1, 0] rfl)
    exact loop_22 (mB + 1 - 1 + 1) 1 0 (by omega) (by first | omega | assumption) (by first | omega | assumption) (by simp [zbst, c_6]) (by omega) ls (lv_sub hl [2, 3, 1, 0] rfl)
  · refine lv_aload_n hx hb d_Md_best_9 rfl (lv_at hl 0 rfl) ?_
    refine va_get (D := (dC, dI)) (ci := 6) (v := .ref gI) (C := R_Md) (T := F_Md) (N := 21) hx hb hts i_Md hown hK hP 0 rfl rfl 11 (by decide) (hts _ wd_574) (fun _ h9 => h9) rfl d_Md_best_10 ?_
    refine lv_iload_n hx hb d_Md_best_13 rfl (lv_at hl 1 rfl) ?_
    refine zn_iald hx hb hK hP 2 0 rfl rfl (i := pg) (by omega) (by omega) d_Md_best_14 ?_
    refine lv_goto (tgt := 19) hx hb d_Md_best_15 (by decide) ?_
    refine lv_istore_n (lv' := [(2, .int (nI (mi pg))), (0, .ref h0), (1, .int (nI pg))]) hx hb d_Md_best_19 rfl hl (by decide) rfl (fun ls hl => ?_)
    refine lv_iconst (v := (nI 1)) hx hb d_Md_best_20 (by decide) ?_
    refine lv_istore_n (lv' := [(3, .int (nI 1)), (2, .int (nI (mi pg))), (0, .ref h0), (1, .int (nI pg))]) hx hb d_Md_best_21 rfl hl (by decide) rfl (fun ls hl => ?_)
    have loop_22 : ∀ (fu : Nat) (i : Nat) (n : Nat), mB + 1 - i < fu → (1 ≤ i) → (i ≤ mB + 1) → (n = zbst mt cp pg (if mr pg = true then mi pg else 0) (i - 1)) → (n ≤ 1000) → ∀ (ls : Array Slot), lv_has ls 4 [(0, .ref h0), (1, .int (nI pg)), (2, .int (nI n)), (3, .int (nI i))] → W p l e (headSpec w_Md_best ({ frames := 0, cells := 0, slots := 0, locals := 0 } : Room)).room s m ([.ref h0, .int (nI pg)] : List Value).toArray below meth c s.heap [] 0 0 (MQ below (k2_QcV (.int (nI (zbst mt cp pg (if mr pg = true then mi pg else 0) mB)))) ([.ref h0, .int (nI pg)] : List Value).toArray s 0 0 (fun _ => False)) (F0 m 22 ls []) := by
      intro fu
      induction fu with
      | zero => intro _ _ hm; exact absurd hm (Nat.not_lt_zero _)
      | succ fu ih_22 =>
        intro i n hm_22 h1 h2 h3 h4 ls hl
        refine lv_iload_n hx hb d_Md_best_22 rfl (lv_at hl 3 rfl) ?_
        refine lv_aload_n hx hb d_Md_best_23 rfl (lv_at hl 0 rfl) ?_
        refine va_get (D := (dC, dI)) (ci := 6) (v := .int (nI mB)) (C := R_Md) (T := F_Md) (N := 21) hx hb hts i_Md hown hK hP 0 rfl rfl 18 (by decide) (hts _ wd_581) (fun _ h9 => h9) rfl d_Md_best_24 ?_
        refine zn_icmp_gt (tgt := 72) hx hb (a := i) (b := mB) (by omega) (by omega) d_Md_best_27 (by decide) (fun c_27 => ?_) (fun c_27 => ?_)
        · refine lv_iload_n hx hb d_Md_best_72 rfl (lv_at hl 2 rfl) ?_
          exact W.iret hx hb hr (fun t ht hW => ⟨by rw [h3, show i - 1 = mB by omega], ht⟩) (fun q h => by cases h) d_Md_best_73
        · refine lv_aload_n hx hb d_Md_best_30 rfl (lv_at hl 0 rfl) ?_
          refine va_get (D := (dC, dI)) (ci := 6) (v := .ref gT) (C := R_Md) (T := F_Md) (N := 21) hx hb hts i_Md hown hK hP 0 rfl rfl 13 (by decide) (hts _ wd_576) (fun _ h9 => h9) rfl d_Md_best_31 ?_
          refine lv_iload_n hx hb d_Md_best_34 rfl (lv_at hl 3 rfl) ?_
          refine zn_zald hx hb hK hP 3 2 rfl rfl (i := i) (by omega) (by omega) d_Md_best_35 ?_
          refine zb_if_eq (tgt := 66) hx hb d_Md_best_36 (by decide) (fun c_36 => ?_) (fun c_36 => ?_)
          · refine lv_iinc (v := (nI (i + 1))) (lv' := [(3, .int (nI (i + 1))), (0, .ref h0), (1, .int (nI pg)), (2, .int (nI n))]) hx hb d_Md_best_66 hl (k := 3) rfl (nI_1 _) (by decide) rfl (fun ls hl => ?_)
            refine lv_goto (tgt := 22) hx hb d_Md_best_69 (by decide) ?_
            exact ih_22 (i + 1) n (by omega) (by first | omega | assumption) (by first | omega | assumption) (by rw [Nat.add_sub_cancel, zbst_pos (by omega), if_neg (by rw [c_36]; decide)]; exact h3) (by omega) ls (lv_sub hl [1, 2, 3, 0] rfl)
          · refine lv_aload_n hx hb d_Md_best_39 rfl (lv_at hl 0 rfl) ?_
            refine va_get (D := (dC, dI)) (ci := 6) (v := .ref gC) (C := R_Md) (T := F_Md) (N := 21) hx hb hts i_Md hown hK hP 0 rfl rfl 17 (by decide) (hts _ wd_580) (fun _ h9 => h9) rfl d_Md_best_40 ?_
            refine lv_iload_n hx hb d_Md_best_43 rfl (lv_at hl 3 rfl) ?_
            refine lv_bipush (v := (nI 8)) hx hb d_Md_best_44 (by decide) ?_
            refine zn_imul hx hb d_Md_best_46 ?_
            refine lv_iload_n hx hb d_Md_best_47 rfl (lv_at hl 1 rfl) ?_
            refine zn_iadd hx hb d_Md_best_48 ?_
            refine zn_iald hx hb hK hP 4 0 rfl rfl (i := (i * 8) + pg) (by omega) (by omega) d_Md_best_49 ?_
            refine lv_iload_n hx hb d_Md_best_50 rfl (lv_at hl 2 rfl) ?_
            refine lv_icmp_le (tgt := 66) hx hb d_Md_best_51 (by decide) (fun c_51 => ?_) (fun c_51 => ?_)
            · have h7 := (okc_le (hcp (i * 8 + pg)) (by omega)).mp c_51
              refine lv_iinc (v := (nI (i + 1))) (lv' := [(3, .int (nI (i + 1))), (0, .ref h0), (1, .int (nI pg)), (2, .int (nI n))]) hx hb d_Md_best_66 hl (k := 3) rfl (nI_1 _) (by decide) rfl (fun ls hl => ?_)
              refine lv_goto (tgt := 22) hx hb d_Md_best_69 (by decide) ?_
              exact ih_22 (i + 1) n (by omega) (by first | omega | assumption) (by first | omega | assumption) (by rw [Nat.add_sub_cancel, zbst_pos (by omega), if_pos c_36, ← h3, Nat.max_eq_left h7]) (by omega) ls (lv_sub hl [1, 2, 3, 0] rfl)
            · refine lv_aload_n hx hb d_Md_best_54 rfl (lv_at hl 0 rfl) ?_
              refine va_get (D := (dC, dI)) (ci := 6) (v := .ref gC) (C := R_Md) (T := F_Md) (N := 21) hx hb hts i_Md hown hK hP 0 rfl rfl 17 (by decide) (hts _ wd_580) (fun _ h9 => h9) rfl d_Md_best_55 ?_
              refine lv_iload_n hx hb d_Md_best_58 rfl (lv_at hl 3 rfl) ?_
              refine lv_bipush (v := (nI 8)) hx hb d_Md_best_59 (by decide) ?_
              refine zn_imul hx hb d_Md_best_61 ?_
              refine lv_iload_n hx hb d_Md_best_62 rfl (lv_at hl 1 rfl) ?_
              refine zn_iadd hx hb d_Md_best_63 ?_
              refine zn_iald hx hb hK hP 4 0 rfl rfl (i := (i * 8) + pg) (by omega) (by omega) d_Md_best_64 ?_
              refine lv_istore_n (lv' := [(2, .int (cp ((i * 8) + pg))), (0, .ref h0), (1, .int (nI pg)), (3, .int (nI i))]) hx hb d_Md_best_65 rfl hl (by decide) rfl (fun ls hl => ?_)
              have h7 : ¬ kN (cp (i * 8 + pg)) ≤ n := fun q => c_51 ((okc_le (hcp (i * 8 + pg)) (by omega)).mpr q)
              obtain ⟨h8, h9⟩ : cp (i * 8 + pg) = nI (kN (cp (i * 8 + pg))) ∧ kN (cp (i * 8 + pg)) ≤ 1000 := by
                rcases hcp (i * 8 + pg) with q | q
                · rw [q, kN_m1] at h7; omega
                · exact q
              have hl : lv_has ls 4 [(2, .int (nI (kN (cp (i * 8 + pg))))), (0, .ref h0), (1, .int (nI pg)), (3, .int (nI i))] := by rw [← h8]; exact hl
              refine lv_iinc (v := (nI (i + 1))) (lv' := [(3, .int (nI (i + 1))), (2, .int (nI (kN (cp (i * 8 + pg))))), (0, .ref h0), (1, .int (nI pg))]) hx hb d_Md_best_66 hl (k := 3) rfl (nI_1 _) (by decide) rfl (fun ls hl => ?_)
              refine lv_goto (tgt := 22) hx hb d_Md_best_69 (by decide) ?_
              exact ih_22 (i + 1) (kN (cp (i * 8 + pg))) (by omega) (by first | omega | assumption) (by first | omega | assumption) (by rw [Nat.add_sub_cancel, zbst_pos (by omega), if_pos c_36, ← h3, Nat.max_eq_right (by omega)]) (by omega) ls (lv_sub hl [2, 3, 1, 0] rfl)
    exact loop_22 (mB + 1 - 1 + 1) 1 (mi pg) (by omega) (by first | omega | assumption) (by first | omega | assumption) (by simp [zbst, c_6]) (by omega) ls (lv_sub hl [2, 3, 1, 0] rfl)
