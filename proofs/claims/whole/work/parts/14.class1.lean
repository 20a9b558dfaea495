theorem isIn_out {x : Int32} {n : Nat} (hn : n < 2 ^ 31) (h : isIn x n = false) : x.toInt < 0 ∨ (n : Int) - 1 < x.toInt := by
  by_cases h1 : x < 0
  · left
    rw [Int32.lt_iff_toInt_lt] at h1
    have : (0 : Int32).toInt = 0 := by decide
    omega
  · right
    obtain ⟨j, hj, rfl⟩ := nI_of h1
    rw [nI_toInt hj]
    rcases Nat.lt_or_ge j n with q | q
    · rw [isIn_nI hn q] at h; exact absurd h (by decide)
    · omega
set_option maxHeartbeats 4000000 in
set_option maxRecDepth 100000 in
theorem c_Pr_begin_ref (l : Launch) (dC : Nat → ClassId) (dI : Nat → Nat → Nat) (cT : Nat → ClassId) (sz : Nat) (h0 : Nat) (pL : Nat) (pT : Nat) (pD : Nat) (pB : Nat) (pS : Nat) (pR : Nat) (so : Bool) (xK : Nat) (xR : Nat) (ch : Nat) (op : Bool) (ho : op = true) : Met l y_Pr_begin w_Pr_begin ({ frames := 1, cells := 0, slots := 0, locals := 20 } : Room) (zPre (dC, dI) vwCl (zT cT) [.ref h0] ([(h0, zoPr pL pT pD pB pS so pR), (pT, zoTx xK xR ch op)]) sz) (zQ (dC, dI) vwCl (S := Unit) (fun zu => True) (fun zu => some (.int (-1))) (fun zu => [(h0, zoPr pL pT pD pB pS so pR), (pT, zoTx xK xR ch op)]) (va_A ([(h0, zoPr pL pT pD pB pS so pR), (pT, zoTx xK xR ch op)]) sz)) 0 0 (va_A ([(h0, zoPr pL pT pD pB pS so pR), (pT, zoTx xK xR ch op)]) sz) := by
  refine Met.ofW (cc := b_Pr_begin) (maxL := 1) (ret := (some .int)) (by decide) rfl ?_
  intro p e s m args below meth c s₁ B hml hv
  obtain ⟨rfl, hsz, hP, hK, hD0, hE⟩ := hv
  have hx := B.exec
  have hb := B.bytes
  have hr := B.returns
  have hts := fun w h => atoms_spec (ws := w_Pr_begin) B.pre w (List.mem_cons_of_mem _ h)
  have hown : s.vm.findClass R_Pr = some m.cls := findClass_of_methodNamed B.named
  have hlocks := B.notSynchronized
  subst hsz
  have hD := hD0.self (sz := s.heap.size)
  generalize hAe : va_A ([(h0, zoPr pL pT pD pB pS so pR), (pT, zoTx xK xR ch op)]) s.heap.size = A at hD ⊢
  have hA : ∀ q : Nat, s.heap.size ≤ q → A q := fun q h => by rw [← hAe]; exact Or.inr h
  have hS : va_S A s.heap s.heap [] := va_S.rf
  have hl := lv_entry ([.ref h0]) (n := 1) (Nat.le_of_ble_eq_true rfl)
  rw [lg_entry_eq]
  generalize (lg_sl ([.ref h0]) ++ List.replicate (1 - (lg_sl ([.ref h0])).length) Slot.unset).toArray = ls at hl ⊢
  have hl : lv_has ls 1 [(0, .ref h0)] := hl
  refine lv_aload_n hx hb d_Pr_begin_0 rfl (lv_at hl 0 rfl) ?_
  refine va_get (D := (dC, dI)) (ci := 0) (v := .ref pT) (C := R_Pr) (T := F_Pr) (N := 7) hx hb hts i_Pr hown hK hP 0 rfl rfl 1 (by decide) (hts _ wd_153) (fun _ h9 => h9) rfl d_Pr_begin_1 ?_
  refine zw_R (r := .int (zb op)) (va_runV (As := []) (rest := []) ⟨hx, hb, hml, hown, hts⟩ (c_Tx_isOpen l dC dI cT pT xK xR ch op) (cwV 0 hts (zgV wd_178 wd_179 wd_180 wd_2 wd_181) rfl rfl rfl (by decide +kernel) ⟨Nat.le_of_ble_eq_true rfl, Nat.le_of_ble_eq_true rfl⟩) ⟨zPreR_blind, va_recv hK hP (ci := 2) (q0 := 1) rfl rfl, zp_R hK hE (zSub (X := [(h0, zoPr pL pT pD pB pS so pR), (pT, zoTx xK xR ch op)]) (pl := []) hP [1] rfl)⟩ rfl rfl hl.1 rfl (lv_room (Nat.le_of_ble_eq_true rfl)) d_Pr_begin_4 ⟨Nat.le_of_ble_eq_true rfl, Nat.le_of_ble_eq_true rfl⟩) ?_
  refine zb_if_eq (tgt := 12) hx hb d_Pr_begin_7 (by decide) (fun c_7 => absurd c_7 (by rw [ho]; decide)) (fun c_7 => ?_)
  refine lv_iconst (v := (-1)) hx hb d_Pr_begin_10 (by decide) ?_
  have hP9 := hP.sub (ws' := [(h0, zoPr pL pT pD pB pS so pR), (pT, zoTx xK xR ch op)]) [0, 1] rfl
  have hD9 := hD.sub (ws' := [(h0, zoPr pL pT pD pB pS so pR), (pT, zoTx xK xR ch op)]) [0, 1] (by decide) rfl
  exact W.iret hx hb hr (fun t ht hW => ⟨⟨(), trivial, rfl, by rw [ht]; exact hP9, hD9⟩, hS.F ht⟩) hS.2.2 d_Pr_begin_11
set_option maxHeartbeats 4000000 in
set_option maxRecDepth 100000 in
theorem c_Pr_begin_ok (l : Launch) (dC : Nat → ClassId) (dI : Nat → Nat → Nat) (cT : Nat → ClassId) (sz : Nat) (h0 : Nat) (pL : Nat) (pT : Nat) (pD : Nat) (pB : Nat) (pS : Nat) (pR : Nat) (so : Bool) (xK : Nat) (xR : Nat) (ch : Nat) (op : Bool) (ho : op = false) : Met l y_Pr_begin w_Pr_begin ({ frames := 1, cells := 0, slots := 0, locals := 20 } : Room) (zPre (dC, dI) vwCl (zT cT) [.ref h0] ([(h0, zoPr pL pT pD pB pS so pR), (pT, zoTx xK xR ch op)]) sz) (zQ (dC, dI) vwCl (S := Unit) (fun zu => True) (fun zu => some (.int (nI 0))) (fun zu => [(h0, zoPr pL pT pD pB pS so pR), (pT, zoTx xK xR ch true)]) (va_A ([(h0, zoPr pL pT pD pB pS so pR), (pT, zoTx xK xR ch op)]) sz)) 0 0 (va_A ([(h0, zoPr pL pT pD pB pS so pR), (pT, zoTx xK xR ch op)]) sz) := by
  refine Met.ofW (cc := b_Pr_begin) (maxL := 1) (ret := (some .int)) (by decide) rfl ?_
  intro p e s m args below meth c s₁ B hml hv
  obtain ⟨rfl, hsz, hP, hK, hD0, hE⟩ := hv
  have hx := B.exec
  have hb := B.bytes
  have hr := B.returns
  have hts := fun w h => atoms_spec (ws := w_Pr_begin) B.pre w (List.mem_cons_of_mem _ h)
  have hown : s.vm.findClass R_Pr = some m.cls := findClass_of_methodNamed B.named
  have hlocks := B.notSynchronized
  subst hsz
  have hD := hD0.self (sz := s.heap.size)
  generalize hAe : va_A ([(h0, zoPr pL pT pD pB pS so pR), (pT, zoTx xK xR ch op)]) s.heap.size = A at hD ⊢
  have hA : ∀ q : Nat, s.heap.size ≤ q → A q := fun q h => by rw [← hAe]; exact Or.inr h
  have hS : va_S A s.heap s.heap [] := va_S.rf
  have hl := lv_entry ([.ref h0]) (n := 1) (Nat.le_of_ble_eq_true rfl)
  rw [lg_entry_eq]
  generalize (lg_sl ([.ref h0]) ++ List.replicate (1 - (lg_sl ([.ref h0])).length) Slot.unset).toArray = ls at hl ⊢
  have hl : lv_has ls 1 [(0, .ref h0)] := hl
  refine lv_aload_n hx hb d_Pr_begin_0 rfl (lv_at hl 0 rfl) ?_
  refine va_get (D := (dC, dI)) (ci := 0) (v := .ref pT) (C := R_Pr) (T := F_Pr) (N := 7) hx hb hts i_Pr hown hK hP 0 rfl rfl 1 (by decide) (hts _ wd_153) (fun _ h9 => h9) rfl d_Pr_begin_1 ?_
  refine zw_R (r := .int (zb op)) (va_runV (As := []) (rest := []) ⟨hx, hb, hml, hown, hts⟩ (c_Tx_isOpen l dC dI cT pT xK xR ch op) (cwV 0 hts (zgV wd_178 wd_179 wd_180 wd_2 wd_181) rfl rfl rfl (by decide +kernel) ⟨Nat.le_of_ble_eq_true rfl, Nat.le_of_ble_eq_true rfl⟩) ⟨zPreR_blind, va_recv hK hP (ci := 2) (q0 := 1) rfl rfl, zp_R hK hE (zSub (X := [(h0, zoPr pL pT pD pB pS so pR), (pT, zoTx xK xR ch op)]) (pl := []) hP [1] rfl)⟩ rfl rfl hl.1 rfl (lv_room (Nat.le_of_ble_eq_true rfl)) d_Pr_begin_4 ⟨Nat.le_of_ble_eq_true rfl, Nat.le_of_ble_eq_true rfl⟩) ?_
  refine zb_if_eq (tgt := 12) hx hb d_Pr_begin_7 (by decide) (fun c_7 => ?_) (fun c_7 => absurd c_7 (by rw [ho]; decide))
  refine lv_aload_n hx hb d_Pr_begin_12 rfl (lv_at hl 0 rfl) ?_
  refine va_get (D := (dC, dI)) (ci := 0) (v := .ref pT) (C := R_Pr) (T := F_Pr) (N := 7) hx hb hts i_Pr hown hK hP 0 rfl rfl 1 (by decide) (hts _ wd_153) (fun _ h9 => h9) rfl d_Pr_begin_13 ?_
  refine zw_Q (X := [(h0, zoPr pL pT pD pB pS so pR), (pT, zoTx xK xR ch op)]) (pl := []) (va_runV (As := []) (rest := []) ⟨hx, hb, hml, hown, hts⟩ (c_Tx_open l dC dI cT s.heap.size pT xK xR ch op) (cwV 0 hts (zgV wd_182 wd_183 wd_184 wd_2 wd_185) rfl rfl rfl (by decide +kernel) ⟨Nat.le_of_ble_eq_true rfl, Nat.le_of_ble_eq_true rfl⟩) ⟨zPre_blind, va_recv hK hP (ci := 2) (q0 := 1) rfl rfl, zp_Q (X := [(h0, zoPr pL pT pD pB pS so pR), (pT, zoTx xK xR ch op)]) (pl := []) hK hE hP hD [1] (by decide) rfl⟩ rfl rfl hl.1 rfl (lv_room (Nat.le_of_ble_eq_true rfl)) d_Pr_begin_16 ⟨Nat.le_of_ble_eq_true rfl, Nat.le_of_ble_eq_true rfl⟩) hP hD hS hA [1] [0] rfl (wr := [(h0, zoPr pL pT pD pB pS so pR)]) rfl (by decide) (by decide) (fun zu => []) (fun _ => rfl) (fun zu H locs hφ hP hD hS => ?_)
  have hP : va_P (dC, dI) vwCl ([(h0, zoPr pL pT pD pB pS so pR), (pT, zoTx xK xR ch true)]) H := hP
  have hD : va_D A ([(h0, zoPr pL pT pD pB pS so pR), (pT, zoTx xK xR ch true)]) := hD
  refine lv_iconst (v := (nI 0)) hx hb d_Pr_begin_19 (by decide) ?_
  have hP9 := hP.sub (ws' := [(h0, zoPr pL pT pD pB pS so pR), (pT, zoTx xK xR ch true)]) [0, 1] rfl
  have hD9 := hD.sub (ws' := [(h0, zoPr pL pT pD pB pS so pR), (pT, zoTx xK xR ch true)]) [0, 1] (by decide) rfl
  exact W.iret hx hb hr (fun t ht hW => ⟨⟨(), trivial, rfl, by rw [ht]; exact hP9, hD9⟩, hS.F ht⟩) hS.2.2 d_Pr_begin_20
set_option maxHeartbeats 4000000 in
set_option maxRecDepth 100000 in
theorem c_Pr_put_ref (l : Launch) (dC : Nat → ClassId) (dI : Nat → Nat → Nat) (cT : Nat → ClassId) (sz : Nat) (h0 : Nat) (pL : Nat) (pT : Nat) (pD : Nat) (pB : Nat) (pS : Nat) (pR : Nat) (so : Bool) (xK : Nat) (xR : Nat) (ch : Nat) (op : Bool) (k : Int32) (v : Int32) (b : Bool) (hc : ch ≤ 4) (hno : ¬ (isIn k 32 = true ∧ op = true ∧ ch < 4)) : Met l y_Pr_put w_Pr_put ({ frames := 1, cells := 0, slots := 0, locals := 20 } : Room) (zPre (dC, dI) vwCl (zT cT) [.ref h0, .int k, .int v, .int (zb b)] ([(h0, zoPr pL pT pD pB pS so pR), (pT, zoTx xK xR ch op)]) sz) (zQ (dC, dI) vwCl (S := Unit) (fun zu => True) (fun zu => some (.int (-1))) (fun zu => [(h0, zoPr pL pT pD pB pS so pR), (pT, zoTx xK xR ch op)]) (va_A ([(h0, zoPr pL pT pD pB pS so pR), (pT, zoTx xK xR ch op)]) sz)) 0 0 (va_A ([(h0, zoPr pL pT pD pB pS so pR), (pT, zoTx xK xR ch op)]) sz) := by
  refine Met.ofW (cc := b_Pr_put) (maxL := 5) (ret := (some .int)) (by decide) rfl ?_
  intro p e s m args below meth c s₁ B hml hv
  obtain ⟨rfl, hsz, hP, hK, hD0, hE⟩ := hv
  have hx := B.exec
  have hb := B.bytes
  have hr := B.returns
  have hts := fun w h => atoms_spec (ws := w_Pr_put) B.pre w (List.mem_cons_of_mem _ h)
  have hown : s.vm.findClass R_Pr = some m.cls := findClass_of_methodNamed B.named
  have hlocks := B.notSynchronized
  subst hsz
  have hD := hD0.self (sz := s.heap.size)
  generalize hAe : va_A ([(h0, zoPr pL pT pD pB pS so pR), (pT, zoTx xK xR ch op)]) s.heap.size = A at hD ⊢
  have hA : ∀ q : Nat, s.heap.size ≤ q → A q := fun q h => by rw [← hAe]; exact Or.inr h
  have hS : va_S A s.heap s.heap [] := va_S.rf
  have hl := lv_entry ([.ref h0, .int k, .int v, .int (zb b)]) (n := 5) (Nat.le_of_ble_eq_true rfl)
  rw [lg_entry_eq]
  generalize (lg_sl ([.ref h0, .int k, .int v, .int (zb b)]) ++ List.replicate (5 - (lg_sl ([.ref h0, .int k, .int v, .int (zb b)])).length) Slot.unset).toArray = ls at hl ⊢
  have hl : lv_has ls 5 [(0, .ref h0), (1, .int k), (2, .int v), (3, .int (zb b))] := hl
  refine lv_iload_n hx hb d_Pr_put_0 rfl (lv_at hl 1 rfl) ?_
  refine zw_R (r := .int (zb (isIn k 32))) (va_runS (As := [.int k]) (rest := []) ⟨hx, hb, hml, hown, hts⟩ (c_Pr_isKey l dC dI cT k) (va_cwS 1 hts (zgS wd_190 wd_191 wd_1 wd_192) rfl rfl rfl (by decide +kernel) ⟨Nat.le_of_ble_eq_true rfl, Nat.le_of_ble_eq_true rfl⟩) ⟨zPreR_blind, zp_R hK hE (zSub (X := [(h0, zoPr pL pT pD pB pS so pR), (pT, zoTx xK xR ch op)]) (pl := []) hP [] rfl)⟩ rfl rfl hl.1 rfl (lv_room (Nat.le_of_ble_eq_true rfl)) d_Pr_put_1 ⟨Nat.le_of_ble_eq_true rfl, Nat.le_of_ble_eq_true rfl⟩) ?_
  refine zb_if_eq (tgt := 17) hx hb d_Pr_put_4 (by decide) (fun c_4 => ?_) (fun c_4 => ?_)
  · refine lv_iconst (v := (-1)) hx hb d_Pr_put_17 (by decide) ?_
    have hP9 := hP.sub (ws' := [(h0, zoPr pL pT pD pB pS so pR), (pT, zoTx xK xR ch op)]) [0, 1] rfl
    have hD9 := hD.sub (ws' := [(h0, zoPr pL pT pD pB pS so pR), (pT, zoTx xK xR ch op)]) [0, 1] (by decide) rfl
    exact W.iret hx hb hr (fun t ht hW => ⟨⟨(), trivial, rfl, by rw [ht]; exact hP9, hD9⟩, hS.F ht⟩) hS.2.2 d_Pr_put_18
  · refine lv_aload_n hx hb d_Pr_put_7 rfl (lv_at hl 0 rfl) ?_
    refine va_get (D := (dC, dI)) (ci := 0) (v := .ref pT) (C := R_Pr) (T := F_Pr) (N := 7) hx hb hts i_Pr hown hK hP 0 rfl rfl 1 (by decide) (hts _ wd_153) (fun _ h9 => h9) rfl d_Pr_put_8 ?_
    refine zw_R (r := .int (zb (op && decide (ch < 4)))) (va_runV (As := []) (rest := []) ⟨hx, hb, hml, hown, hts⟩ (c_Tx_takesAChange l dC dI cT pT xK xR ch op (by first | omega | assumption)) (cwV 0 hts (zgV wd_193 wd_194 wd_195 wd_2 wd_196) rfl rfl rfl (by decide +kernel) ⟨Nat.le_of_ble_eq_true rfl, Nat.le_of_ble_eq_true rfl⟩) ⟨zPreR_blind, va_recv hK hP (ci := 2) (q0 := 1) rfl rfl, zp_R hK hE (zSub (X := [(h0, zoPr pL pT pD pB pS so pR), (pT, zoTx xK xR ch op)]) (pl := []) hP [1] rfl)⟩ rfl rfl hl.1 rfl (lv_room (Nat.le_of_ble_eq_true rfl)) d_Pr_put_11 ⟨Nat.le_of_ble_eq_true rfl, Nat.le_of_ble_eq_true rfl⟩) ?_
    refine zb_if_ne (tgt := 19) hx hb d_Pr_put_14 (by decide) (fun c_14 => ?_) (fun c_14 => ?_)
    · exact absurd hno (fun q => q ⟨c_4, by simp at c_14; exact c_14.1, by simp at c_14; exact c_14.2⟩)
    · refine lv_iconst (v := (-1)) hx hb d_Pr_put_17 (by decide) ?_
      have hP9 := hP.sub (ws' := [(h0, zoPr pL pT pD pB pS so pR), (pT, zoTx xK xR ch op)]) [0, 1] rfl
      have hD9 := hD.sub (ws' := [(h0, zoPr pL pT pD pB pS so pR), (pT, zoTx xK xR ch op)]) [0, 1] (by decide) rfl
      exact W.iret hx hb hr (fun t ht hW => ⟨⟨(), trivial, rfl, by rw [ht]; exact hP9, hD9⟩, hS.F ht⟩) hS.2.2 d_Pr_put_18
set_option maxHeartbeats 4000000 in
set_option maxRecDepth 100000 in
theorem c_Pr_put_full (l : Launch) (dC : Nat → ClassId) (dI : Nat → Nat → Nat) (cT : Nat → ClassId) (sz : Nat) (h0 : Nat) (pL : Nat) (pT : Nat) (pD : Nat) (pB : Nat) (pS : Nat) (pR : Nat) (so : Bool) (xK : Nat) (xR : Nat) (ch : Nat) (op : Bool) (lS : Nat) (aK : Nat) (aC : Nat) (aT : Nat) (aP : Nat) (lL : Nat) (lC : Nat) (lA : Nat) (lP : Nat) (k : Nat) (v : Int32) (b : Bool) (hk : k < 32) (ho : op = true) (hc4 : ch < 4) (hm : (lA + 4) * lS < 2 ^ 31) (hl0 : lL ≤ min ((lA + 4) * lS) 800) (hfu : min ((lA + 4) * lS) 800 - lL < ch + 3) : Met l y_Pr_put w_Pr_put ({ frames := 2, cells := 0, slots := 0, locals := 41 } : Room) (zPre (dC, dI) vwCl (zT cT) [.ref h0, .int (nI k), .int v, .int (zb b)] ([(h0, zoPr pL pT pD pB pS so pR), (pT, zoTx xK xR ch op), (pL, zoLg lS aK aC aT aP lL lC lA lP)]) sz) (zQ (dC, dI) vwCl (S := Unit) (fun zu => True) (fun zu => some (.int (-2))) (fun zu => [(h0, zoPr pL pT pD pB pS so pR), (pT, zoTx xK xR ch op), (pL, zoLg lS aK aC aT aP lL lC lA lP)]) (va_A ([(h0, zoPr pL pT pD pB pS so pR), (pT, zoTx xK xR ch op), (pL, zoLg lS aK aC aT aP lL lC lA lP)]) sz)) 0 0 (va_A ([(h0, zoPr pL pT pD pB pS so pR), (pT, zoTx xK xR ch op), (pL, zoLg lS aK aC aT aP lL lC lA lP)]) sz) := by
  refine Met.ofW (cc := b_Pr_put) (maxL := 5) (ret := (some .int)) (by decide) rfl ?_
  intro p e s m args below meth c s₁ B hml hv
  obtain ⟨rfl, hsz, hP, hK, hD0, hE⟩ := hv
  have hx := B.exec
  have hb := B.bytes
  have hr := B.returns
  have hts := fun w h => atoms_spec (ws := w_Pr_put) B.pre w (List.mem_cons_of_mem _ h)
  have hown : s.vm.findClass R_Pr = some m.cls := findClass_of_methodNamed B.named
  have hlocks := B.notSynchronized
  subst hsz
  have hD := hD0.self (sz := s.heap.size)
  generalize hAe : va_A ([(h0, zoPr pL pT pD pB pS so pR), (pT, zoTx xK xR ch op), (pL, zoLg lS aK aC aT aP lL lC lA lP)]) s.heap.size = A at hD ⊢
  have hA : ∀ q : Nat, s.heap.size ≤ q → A q := fun q h => by rw [← hAe]; exact Or.inr h
  have hS : va_S A s.heap s.heap [] := va_S.rf
  have hl := lv_entry ([.ref h0, .int (nI k), .int v, .int (zb b)]) (n := 5) (Nat.le_of_ble_eq_true rfl)
  rw [lg_entry_eq]
  generalize (lg_sl ([.ref h0, .int (nI k), .int v, .int (zb b)]) ++ List.replicate (5 - (lg_sl ([.ref h0, .int (nI k), .int v, .int (zb b)])).length) Slot.unset).toArray = ls at hl ⊢
  have hl : lv_has ls 5 [(0, .ref h0), (1, .int (nI k)), (2, .int v), (3, .int (zb b))] := hl
  refine lv_iload_n hx hb d_Pr_put_0 rfl (lv_at hl 1 rfl) ?_
  refine zw_R (r := .int (zb (isIn (nI k) 32))) (va_runS (As := [.int (nI k)]) (rest := []) ⟨hx, hb, hml, hown, hts⟩ (c_Pr_isKey l dC dI cT (nI k)) (va_cwS 1 hts (zgS wd_190 wd_191 wd_1 wd_192) rfl rfl rfl (by decide +kernel) ⟨Nat.le_of_ble_eq_true rfl, Nat.le_of_ble_eq_true rfl⟩) ⟨zPreR_blind, zp_R hK hE (zSub (X := [(h0, zoPr pL pT pD pB pS so pR), (pT, zoTx xK xR ch op), (pL, zoLg lS aK aC aT aP lL lC lA lP)]) (pl := []) hP [] rfl)⟩ rfl rfl hl.1 rfl (lv_room (Nat.le_of_ble_eq_true rfl)) d_Pr_put_1 ⟨Nat.le_of_ble_eq_true rfl, Nat.le_of_ble_eq_true rfl⟩) ?_
  refine zb_if_eq (tgt := 17) hx hb d_Pr_put_4 (by decide) (fun c_4 => absurd c_4 (by rw [isIn_nI (by decide) hk]; decide)) (fun c_4 => ?_)
  refine lv_aload_n hx hb d_Pr_put_7 rfl (lv_at hl 0 rfl) ?_
  refine va_get (D := (dC, dI)) (ci := 0) (v := .ref pT) (C := R_Pr) (T := F_Pr) (N := 7) hx hb hts i_Pr hown hK hP 0 rfl rfl 1 (by decide) (hts _ wd_153) (fun _ h9 => h9) rfl d_Pr_put_8 ?_
  refine zw_R (r := .int (zb (op && decide (ch < 4)))) (va_runV (As := []) (rest := []) ⟨hx, hb, hml, hown, hts⟩ (c_Tx_takesAChange l dC dI cT pT xK xR ch op (by first | omega | assumption)) (cwV 0 hts (zgV wd_193 wd_194 wd_195 wd_2 wd_196) rfl rfl rfl (by decide +kernel) ⟨Nat.le_of_ble_eq_true rfl, Nat.le_of_ble_eq_true rfl⟩) ⟨zPreR_blind, va_recv hK hP (ci := 2) (q0 := 1) rfl rfl, zp_R hK hE (zSub (X := [(h0, zoPr pL pT pD pB pS so pR), (pT, zoTx xK xR ch op), (pL, zoLg lS aK aC aT aP lL lC lA lP)]) (pl := []) hP [1] rfl)⟩ rfl rfl hl.1 rfl (lv_room (Nat.le_of_ble_eq_true rfl)) d_Pr_put_11 ⟨Nat.le_of_ble_eq_true rfl, Nat.le_of_ble_eq_true rfl⟩) ?_
  refine zb_if_ne (tgt := 19) hx hb d_Pr_put_14 (by decide) (fun c_14 => ?_) (fun c_14 => absurd c_14 (by rw [ho, decide_eq_true hc4]; decide))
  refine lv_aload_n hx hb d_Pr_put_19 rfl (lv_at hl 0 rfl) ?_
  refine va_get (D := (dC, dI)) (ci := 0) (v := .ref pT) (C := R_Pr) (T := F_Pr) (N := 7) hx hb hts i_Pr hown hK hP 0 rfl rfl 1 (by decide) (hts _ wd_153) (fun _ h9 => h9) rfl d_Pr_put_20 ?_
  refine zw_R (r := .int (nI ch)) (va_runV (As := []) (rest := []) ⟨hx, hb, hml, hown, hts⟩ (c_Tx_changes l dC dI cT pT xK xR ch op) (cwV 0 hts (zgV wd_197 wd_198 wd_199 wd_2 wd_200) rfl rfl rfl (by decide +kernel) ⟨Nat.le_of_ble_eq_true rfl, Nat.le_of_ble_eq_true rfl⟩) ⟨zPreR_blind, va_recv hK hP (ci := 2) (q0 := 1) rfl rfl, zp_R hK hE (zSub (X := [(h0, zoPr pL pT pD pB pS so pR), (pT, zoTx xK xR ch op), (pL, zoLg lS aK aC aT aP lL lC lA lP)]) (pl := []) hP [1] rfl)⟩ rfl rfl hl.1 rfl (lv_room (Nat.le_of_ble_eq_true rfl)) d_Pr_put_23 ⟨Nat.le_of_ble_eq_true rfl, Nat.le_of_ble_eq_true rfl⟩) ?_
  refine lv_iconst (v := (nI 1)) hx hb d_Pr_put_26 (by decide) ?_
  refine zn_iadd hx hb d_Pr_put_27 ?_
  refine lv_iconst (v := (nI 2)) hx hb d_Pr_put_28 (by decide) ?_
  refine zn_iadd hx hb d_Pr_put_29 ?_
  refine lv_istore (lv' := [(4, .int (nI ((ch + 1) + 2))), (0, .ref h0), (1, .int (nI k)), (2, .int v), (3, .int (zb b))]) hx hb d_Pr_put_30 hl (by decide) rfl (fun ls hl => ?_)
  refine lv_aload_n hx hb d_Pr_put_32 rfl (lv_at hl 1 rfl) ?_
  refine va_get (D := (dC, dI)) (ci := 0) (v := .ref pL) (C := R_Pr) (T := F_Pr) (N := 7) hx hb hts i_Pr hown hK hP 0 rfl rfl 0 (by decide) (hts _ wd_152) (fun _ h9 => h9) rfl d_Pr_put_33 ?_
  refine zw_R (r := .int (nI (min ((lA + 4) * lS) 800 - lL))) (va_runV (As := []) (rest := []) ⟨hx, hb, hml, hown, hts⟩ (c_Lg_left l dC dI cT pL lS aK aC aT aP lL lC lA lP (by first | omega | assumption) (by first | omega | assumption)) (cwV 0 hts (zgV wd_201 wd_202 wd_203 wd_4 wd_204) rfl rfl rfl (by decide +kernel) ⟨Nat.le_of_ble_eq_true rfl, Nat.le_of_ble_eq_true rfl⟩) ⟨zPreR_blind, va_recv hK hP (ci := 1) (q0 := 2) rfl rfl, zp_R hK hE (zSub (X := [(h0, zoPr pL pT pD pB pS so pR), (pT, zoTx xK xR ch op), (pL, zoLg lS aK aC aT aP lL lC lA lP)]) (pl := []) hP [2] rfl)⟩ rfl rfl hl.1 rfl (lv_room (Nat.le_of_ble_eq_true rfl)) d_Pr_put_36 ⟨Nat.le_of_ble_eq_true rfl, Nat.le_of_ble_eq_true rfl⟩) ?_
  refine lv_iload hx hb d_Pr_put_39 (lv_at hl 0 rfl) ?_
  refine zn_icmp_ge (tgt := 47) hx hb (a := min ((lA + 4) * lS) 800 - lL) (b := (ch + 1) + 2) (by omega) (by omega) d_Pr_put_41 (by decide) (fun c_41 => absurd c_41 (by omega)) (fun c_41 => ?_)
  refine lv_bipush (v := (-2)) hx hb d_Pr_put_44 (by decide) ?_
  have hP9 := hP.sub (ws' := [(h0, zoPr pL pT pD pB pS so pR), (pT, zoTx xK xR ch op), (pL, zoLg lS aK aC aT aP lL lC lA lP)]) [0, 1, 2] rfl
  have hD9 := hD.sub (ws' := [(h0, zoPr pL pT pD pB pS so pR), (pT, zoTx xK xR ch op), (pL, zoLg lS aK aC aT aP lL lC lA lP)]) [0, 1, 2] (by decide) rfl
  exact W.iret hx hb hr (fun t ht hW => ⟨⟨(), trivial, rfl, by rw [ht]; exact hP9, hD9⟩, hS.F ht⟩) hS.2.2 d_Pr_put_46
set_option maxHeartbeats 4000000 in
set_option maxRecDepth 100000 in
theorem c_Pr_put_ok (l : Launch) (dC : Nat → ClassId) (dI : Nat → Nat → Nat) (cT : Nat → ClassId) (sz : Nat) (h0 : Nat) (pL : Nat) (pT : Nat) (pD : Nat) (pB : Nat) (pS : Nat) (pR : Nat) (so : Bool) (xK : Nat) (xR : Nat) (ch : Nat) (op : Bool) (lS : Nat) (aK : Nat) (aC : Nat) (aT : Nat) (aP : Nat) (lL : Nat) (lC : Nat) (lA : Nat) (lP : Nat) (k : Nat) (v : Int32) (b : Bool) (tk : Nat → Nat) (tr : Nat → Int64) (ks : Nat → Int32) (cs : Nat → Int64) (tb : Nat → Int64) (pn : Nat → Nat) (hk : k < 32) (ho : op = true) (hc4 : ch < 4) (hm : (lA + 4) * lS < 2 ^ 31) (hl0 : lL ≤ min ((lA + 4) * lS) 800) (hfu : ch + 3 ≤ min ((lA + 4) * lS) 800 - lL) : Met l y_Pr_put w_Pr_put ({ frames := 2, cells := 0, slots := 0, locals := 46 } : Room) (zPre (dC, dI) vwCl (zT cT) [.ref h0, .int (nI k), .int v, .int (zb b)] ([(h0, zoPr pL pT pD pB pS so pR), (pT, zoTx xK xR ch op), (xK, zaN (cT 0) 4 tk), (xR, zaJ (cT 1) 4 tr), (pL, zoLg lS aK aC aT aP lL lC lA lP), (aK, zaI (cT 0) 801 ks), (aC, zaJ (cT 1) 801 cs), (aT, zaJ (cT 1) 32 tb), (aP, zaN (cT 0) 8 pn)]) sz) (zQ (dC, dI) vwCl (S := Unit) (fun zu => True) (fun zu => some (.int (nI (lL + 1)))) (fun zu => [(h0, zoPr pL pT pD pB pS so pR), (pT, zoTx xK xR (ch + 1) op), (xK, zaN (cT 0) 4 (va_up tk ch k)), (xR, zaJ (cT 1) 4 (va_up tr ch (tb k))), (pL, zoLg lS aK aC aT aP (lL + 1) lC lA lP), (aK, zaI (cT 0) 801 (va_up ks (lL + 1) (nI k))), (aC, zaJ (cT 1) 801 (va_up cs (lL + 1) (if b = true then v.toInt64 else 1000000000000))), (aT, zaJ (cT 1) 32 (va_up tb k (if b = true then v.toInt64 else 1000000000000))), (aP, zaN (cT 0) 8 (va_up pn (k / 4) (lL + 1)))]) (va_A ([(h0, zoPr pL pT pD pB pS so pR), (pT, zoTx xK xR ch op), (xK, zaN (cT 0) 4 tk), (xR, zaJ (cT 1) 4 tr), (pL, zoLg lS aK aC aT aP lL lC lA lP), (aK, zaI (cT 0) 801 ks), (aC, zaJ (cT 1) 801 cs), (aT, zaJ (cT 1) 32 tb), (aP, zaN (cT 0) 8 pn)]) sz)) 0 0 (va_A ([(h0, zoPr pL pT pD pB pS so pR), (pT, zoTx xK xR ch op), (xK, zaN (cT 0) 4 tk), (xR, zaJ (cT 1) 4 tr), (pL, zoLg lS aK aC aT aP lL lC lA lP), (aK, zaI (cT 0) 801 ks), (aC, zaJ (cT 1) 801 cs), (aT, zaJ (cT 1) 32 tb), (aP, zaN (cT 0) 8 pn)]) sz) := by
  refine Met.ofW (cc := b_Pr_put) (maxL := 5) (ret := (some .int)) (by decide) rfl ?_
  intro p e s m args below meth c s₁ B hml hv
  obtain ⟨rfl, hsz, hP, hK, hD0, hE⟩ := hv
  have hx := B.exec
  have hb := B.bytes
  have hr := B.returns
  have hts := fun w h => atoms_spec (ws := w_Pr_put) B.pre w (List.mem_cons_of_mem _ h)
  have hown : s.vm.findClass R_Pr = some m.cls := findClass_of_methodNamed B.named
  have hlocks := B.notSynchronized
  subst hsz
  have hD := hD0.self (sz := s.heap.size)
  generalize hAe : va_A ([(h0, zoPr pL pT pD pB pS so pR), (pT, zoTx xK xR ch op), (xK, zaN (cT 0) 4 tk), (xR, zaJ (cT 1) 4 tr), (pL, zoLg lS aK aC aT aP lL lC lA lP), (aK, zaI (cT 0) 801 ks), (aC, zaJ (cT 1) 801 cs), (aT, zaJ (cT 1) 32 tb), (aP, zaN (cT 0) 8 pn)]) s.heap.size = A at hD ⊢
  have hA : ∀ q : Nat, s.heap.size ≤ q → A q := fun q h => by rw [← hAe]; exact Or.inr h
  have hS : va_S A s.heap s.heap [] := va_S.rf
  have hl := lv_entry ([.ref h0, .int (nI k), .int v, .int (zb b)]) (n := 5) (Nat.le_of_ble_eq_true rfl)
  rw [lg_entry_eq]
  generalize (lg_sl ([.ref h0, .int (nI k), .int v, .int (zb b)]) ++ List.replicate (5 - (lg_sl ([.ref h0, .int (nI k), .int v, .int (zb b)])).length) Slot.unset).toArray = ls at hl ⊢
  have hl : lv_has ls 5 [(0, .ref h0), (1, .int (nI k)), (2, .int v), (3, .int (zb b))] := hl
  refine lv_iload_n hx hb d_Pr_put_0 rfl (lv_at hl 1 rfl) ?_
  refine zw_R (r := .int (zb (isIn (nI k) 32))) (va_runS (As := [.int (nI k)]) (rest := []) ⟨hx, hb, hml, hown, hts⟩ (c_Pr_isKey l dC dI cT (nI k)) (va_cwS 1 hts (zgS wd_190 wd_191 wd_1 wd_192) rfl rfl rfl (by decide +kernel) ⟨Nat.le_of_ble_eq_true rfl, Nat.le_of_ble_eq_true rfl⟩) ⟨zPreR_blind, zp_R hK hE (zSub (X := [(h0, zoPr pL pT pD pB pS so pR), (pT, zoTx xK xR ch op), (xK, zaN (cT 0) 4 tk), (xR, zaJ (cT 1) 4 tr), (pL, zoLg lS aK aC aT aP lL lC lA lP), (aK, zaI (cT 0) 801 ks), (aC, zaJ (cT 1) 801 cs), (aT, zaJ (cT 1) 32 tb), (aP, zaN (cT 0) 8 pn)]) (pl := []) hP [] rfl)⟩ rfl rfl hl.1 rfl (lv_room (Nat.le_of_ble_eq_true rfl)) d_Pr_put_1 ⟨Nat.le_of_ble_eq_true rfl, Nat.le_of_ble_eq_true rfl⟩) ?_
  refine zb_if_eq (tgt := 17) hx hb d_Pr_put_4 (by decide) (fun c_4 => absurd c_4 (by rw [isIn_nI (by decide) hk]; decide)) (fun c_4 => ?_)
  refine lv_aload_n hx hb d_Pr_put_7 rfl (lv_at hl 0 rfl) ?_
  refine va_get (D := (dC, dI)) (ci := 0) (v := .ref pT) (C := R_Pr) (T := F_Pr) (N := 7) hx hb hts i_Pr hown hK hP 0 rfl rfl 1 (by decide) (hts _ wd_153) (fun _ h9 => h9) rfl d_Pr_put_8 ?_
  refine zw_R (r := .int (zb (op && decide (ch < 4)))) (va_runV (As := []) (rest := []) ⟨hx, hb, hml, hown, hts⟩ (c_Tx_takesAChange l dC dI cT pT xK xR ch op (by first | omega | assumption)) (cwV 0 hts (zgV wd_193 wd_194 wd_195 wd_2 wd_196) rfl rfl rfl (by decide +kernel) ⟨Nat.le_of_ble_eq_true rfl, Nat.le_of_ble_eq_true rfl⟩) ⟨zPreR_blind, va_recv hK hP (ci := 2) (q0 := 1) rfl rfl, zp_R hK hE (zSub (X := [(h0, zoPr pL pT pD pB pS so pR), (pT, zoTx xK xR ch op), (xK, zaN (cT 0) 4 tk), (xR, zaJ (cT 1) 4 tr), (pL, zoLg lS aK aC aT aP lL lC lA lP), (aK, zaI (cT 0) 801 ks), (aC, zaJ (cT 1) 801 cs), (aT, zaJ (cT 1) 32 tb), (aP, zaN (cT 0) 8 pn)]) (pl := []) hP [1] rfl)⟩ rfl rfl hl.1 rfl (lv_room (Nat.le_of_ble_eq_true rfl)) d_Pr_put_11 ⟨Nat.le_of_ble_eq_true rfl, Nat.le_of_ble_eq_true rfl⟩) ?_
  refine zb_if_ne (tgt := 19) hx hb d_Pr_put_14 (by decide) (fun c_14 => ?_) (fun c_14 => absurd c_14 (by rw [ho, decide_eq_true hc4]; decide))
  refine lv_aload_n hx hb d_Pr_put_19 rfl (lv_at hl 0 rfl) ?_
  refine va_get (D := (dC, dI)) (ci := 0) (v := .ref pT) (C := R_Pr) (T := F_Pr) (N := 7) hx hb hts i_Pr hown hK hP 0 rfl rfl 1 (by decide) (hts _ wd_153) (fun _ h9 => h9) rfl d_Pr_put_20 ?_
  refine zw_R (r := .int (nI ch)) (va_runV (As := []) (rest := []) ⟨hx, hb, hml, hown, hts⟩ (c_Tx_changes l dC dI cT pT xK xR ch op) (cwV 0 hts (zgV wd_197 wd_198 wd_199 wd_2 wd_200) rfl rfl rfl (by decide +kernel) ⟨Nat.le_of_ble_eq_true rfl, Nat.le_of_ble_eq_true rfl⟩) ⟨zPreR_blind, va_recv hK hP (ci := 2) (q0 := 1) rfl rfl, zp_R hK hE (zSub (X := [(h0, zoPr pL pT pD pB pS so pR), (pT, zoTx xK xR ch op), (xK, zaN (cT 0) 4 tk), (xR, zaJ (cT 1) 4 tr), (pL, zoLg lS aK aC aT aP lL lC lA lP), (aK, zaI (cT 0) 801 ks), (aC, zaJ (cT 1) 801 cs), (aT, zaJ (cT 1) 32 tb), (aP, zaN (cT 0) 8 pn)]) (pl := []) hP [1] rfl)⟩ rfl rfl hl.1 rfl (lv_room (Nat.le_of_ble_eq_true rfl)) d_Pr_put_23 ⟨Nat.le_of_ble_eq_true rfl, Nat.le_of_ble_eq_true rfl⟩) ?_
  refine lv_iconst (v := (nI 1)) hx hb d_Pr_put_26 (by decide) ?_
  refine zn_iadd hx hb d_Pr_put_27 ?_
  refine lv_iconst (v := (nI 2)) hx hb d_Pr_put_28 (by decide) ?_
  refine zn_iadd hx hb d_Pr_put_29 ?_
  refine lv_istore (lv' := [(4, .int (nI ((ch + 1) + 2))), (0, .ref h0), (1, .int (nI k)), (2, .int v), (3, .int (zb b))]) hx hb d_Pr_put_30 hl (by decide) rfl (fun ls hl => ?_)
  refine lv_aload_n hx hb d_Pr_put_32 rfl (lv_at hl 1 rfl) ?_
  refine va_get (D := (dC, dI)) (ci := 0) (v := .ref pL) (C := R_Pr) (T := F_Pr) (N := 7) hx hb hts i_Pr hown hK hP 0 rfl rfl 0 (by decide) (hts _ wd_152) (fun _ h9 => h9) rfl d_Pr_put_33 ?_
  refine zw_R (r := .int (nI (min ((lA + 4) * lS) 800 - lL))) (va_runV (As := []) (rest := []) ⟨hx, hb, hml, hown, hts⟩ (c_Lg_left l dC dI cT pL lS aK aC aT aP lL lC lA lP (by first | omega | assumption) (by first | omega | assumption)) (cwV 0 hts (zgV wd_201 wd_202 wd_203 wd_4 wd_204) rfl rfl rfl (by decide +kernel) ⟨Nat.le_of_ble_eq_true rfl, Nat.le_of_ble_eq_true rfl⟩) ⟨zPreR_blind, va_recv hK hP (ci := 1) (q0 := 4) rfl rfl, zp_R hK hE (zSub (X := [(h0, zoPr pL pT pD pB pS so pR), (pT, zoTx xK xR ch op), (xK, zaN (cT 0) 4 tk), (xR, zaJ (cT 1) 4 tr), (pL, zoLg lS aK aC aT aP lL lC lA lP), (aK, zaI (cT 0) 801 ks), (aC, zaJ (cT 1) 801 cs), (aT, zaJ (cT 1) 32 tb), (aP, zaN (cT 0) 8 pn)]) (pl := []) hP [4] rfl)⟩ rfl rfl hl.1 rfl (lv_room (Nat.le_of_ble_eq_true rfl)) d_Pr_put_36 ⟨Nat.le_of_ble_eq_true rfl, Nat.le_of_ble_eq_true rfl⟩) ?_
  refine lv_iload hx hb d_Pr_put_39 (lv_at hl 0 rfl) ?_
  refine zn_icmp_ge (tgt := 47) hx hb (a := min ((lA + 4) * lS) 800 - lL) (b := (ch + 1) + 2) (by omega) (by omega) d_Pr_put_41 (by decide) (fun c_41 => ?_) (fun c_41 => absurd c_41 (by omega))
  refine lv_aload_n hx hb d_Pr_put_47 rfl (lv_at hl 1 rfl) ?_
  refine va_get (D := (dC, dI)) (ci := 0) (v := .ref pT) (C := R_Pr) (T := F_Pr) (N := 7) hx hb hts i_Pr hown hK hP 0 rfl rfl 1 (by decide) (hts _ wd_153) (fun _ h9 => h9) rfl d_Pr_put_48 ?_
  refine lv_iload_n hx hb d_Pr_put_51 rfl (lv_at hl 2 rfl) ?_
  refine lv_aload_n hx hb d_Pr_put_52 rfl (lv_at hl 1 rfl) ?_
  refine va_get (D := (dC, dI)) (ci := 0) (v := .ref pL) (C := R_Pr) (T := F_Pr) (N := 7) hx hb hts i_Pr hown hK hP 0 rfl rfl 0 (by decide) (hts _ wd_152) (fun _ h9 => h9) rfl d_Pr_put_53 ?_
  refine lv_iload_n hx hb d_Pr_put_56 rfl (lv_at hl 2 rfl) ?_
  refine zw_R (r := .long (tb k)) (va_runV (As := [.int (nI k)]) (rest := [.int (nI k), .ref pT]) ⟨hx, hb, hml, hown, hts⟩ (c_Lg_contentOf l dC dI cT pL lS aK aC aT aP lL lC lA lP k tb (by first | omega | assumption)) (cwV 1 hts (zgV wd_206 wd_207 wd_208 wd_4 wd_209) rfl rfl rfl (by decide +kernel) ⟨Nat.le_of_ble_eq_true rfl, Nat.le_of_ble_eq_true rfl⟩) ⟨zPreR_blind, va_recv hK hP (ci := 1) (q0 := 4) rfl rfl, zp_R hK hE (zSub (X := [(h0, zoPr pL pT pD pB pS so pR), (pT, zoTx xK xR ch op), (xK, zaN (cT 0) 4 tk), (xR, zaJ (cT 1) 4 tr), (pL, zoLg lS aK aC aT aP lL lC lA lP), (aK, zaI (cT 0) 801 ks), (aC, zaJ (cT 1) 801 cs), (aT, zaJ (cT 1) 32 tb), (aP, zaN (cT 0) 8 pn)]) (pl := []) hP [4, 7] rfl)⟩ rfl rfl hl.1 rfl (lv_room (Nat.le_of_ble_eq_true rfl)) d_Pr_put_57 ⟨Nat.le_of_ble_eq_true rfl, Nat.le_of_ble_eq_true rfl⟩) ?_
  refine zw_Q (X := [(h0, zoPr pL pT pD pB pS so pR), (pT, zoTx xK xR ch op), (xK, zaN (cT 0) 4 tk), (xR, zaJ (cT 1) 4 tr), (pL, zoLg lS aK aC aT aP lL lC lA lP), (aK, zaI (cT 0) 801 ks), (aC, zaJ (cT 1) 801 cs), (aT, zaJ (cT 1) 32 tb), (aP, zaN (cT 0) 8 pn)]) (pl := []) (va_runV (As := [.int (nI k), .long (tb k)]) (rest := []) ⟨hx, hb, hml, hown, hts⟩ (c_Tx_remember l dC dI cT s.heap.size pT xK xR ch op k (tb k) tk tr (by first | omega | assumption)) (cwV 2 hts (zgV wd_210 wd_211 wd_212 wd_2 wd_213) rfl rfl rfl (by decide +kernel) ⟨Nat.le_of_ble_eq_true rfl, Nat.le_of_ble_eq_true rfl⟩) ⟨zPre_blind, va_recv hK hP (ci := 2) (q0 := 1) rfl rfl, zp_Q (X := [(h0, zoPr pL pT pD pB pS so pR), (pT, zoTx xK xR ch op), (xK, zaN (cT 0) 4 tk), (xR, zaJ (cT 1) 4 tr), (pL, zoLg lS aK aC aT aP lL lC lA lP), (aK, zaI (cT 0) 801 ks), (aC, zaJ (cT 1) 801 cs), (aT, zaJ (cT 1) 32 tb), (aP, zaN (cT 0) 8 pn)]) (pl := []) hK hE hP hD [1, 2, 3] (by decide) rfl⟩ rfl rfl hl.1 rfl (lv_room (Nat.le_of_ble_eq_true rfl)) d_Pr_put_60 ⟨Nat.le_of_ble_eq_true rfl, Nat.le_of_ble_eq_true rfl⟩) hP hD hS hA [1, 2, 3] [0, 4, 5, 6, 7, 8] rfl (wr := [(h0, zoPr pL pT pD pB pS so pR), (pL, zoLg lS aK aC aT aP lL lC lA lP), (aK, zaI (cT 0) 801 ks), (aC, zaJ (cT 1) 801 cs), (aT, zaJ (cT 1) 32 tb), (aP, zaN (cT 0) 8 pn)]) rfl (by decide) (by decide) (fun zu => []) (fun _ => rfl) (fun zu H locs hφ hP hD hS => ?_)
  have hP : va_P (dC, dI) vwCl ([(h0, zoPr pL pT pD pB pS so pR), (pL, zoLg lS aK aC aT aP lL lC lA lP), (aK, zaI (cT 0) 801 ks), (aC, zaJ (cT 1) 801 cs), (aT, zaJ (cT 1) 32 tb), (aP, zaN (cT 0) 8 pn), (pT, zoTx xK xR (ch + 1) op), (xK, zaN (cT 0) 4 (va_up tk ch k)), (xR, zaJ (cT 1) 4 (va_up tr ch (tb k)))]) H := hP
  have hD : va_D A ([(h0, zoPr pL pT pD pB pS so pR), (pL, zoLg lS aK aC aT aP lL lC lA lP), (aK, zaI (cT 0) 801 ks), (aC, zaJ (cT 1) 801 cs), (aT, zaJ (cT 1) 32 tb), (aP, zaN (cT 0) 8 pn), (pT, zoTx xK xR (ch + 1) op), (xK, zaN (cT 0) 4 (va_up tk ch k)), (xR, zaJ (cT 1) 4 (va_up tr ch (tb k)))]) := hD
  refine lv_aload_n hx hb d_Pr_put_63 rfl (lv_at hl 1 rfl) ?_
  refine va_get (D := (dC, dI)) (ci := 0) (v := .ref pL) (C := R_Pr) (T := F_Pr) (N := 7) hx hb hts i_Pr hown hK hP 0 rfl rfl 0 (by decide) (hts _ wd_152) (fun _ h9 => h9) rfl d_Pr_put_64 ?_
  refine lv_iload_n hx hb d_Pr_put_67 rfl (lv_at hl 2 rfl) ?_
  refine lv_iload_n hx hb d_Pr_put_68 rfl (lv_at hl 4 rfl) ?_
  refine zb_if_eq (tgt := 77) hx hb d_Pr_put_69 (by decide) (fun c_69 => ?_) (fun c_69 => ?_)
  · refine lv_ldc2 (v := 1000000000000) hx hb hown (hts _ wd_214) d_Pr_put_77 ?_
    refine zw_Q (X := [(h0, zoPr pL pT pD pB pS so pR), (pL, zoLg lS aK aC aT aP lL lC lA lP), (aK, zaI (cT 0) 801 ks), (aC, zaJ (cT 1) 801 cs), (aT, zaJ (cT 1) 32 tb), (aP, zaN (cT 0) 8 pn), (pT, zoTx xK xR (ch + 1) op), (xK, zaN (cT 0) 4 (va_up tk ch k)), (xR, zaJ (cT 1) 4 (va_up tr ch (tb k)))]) (pl := []) (va_runV (As := [.int (nI k), .long 1000000000000]) (rest := []) ⟨hx, hb, hml, hown, hts⟩ (c_Lg_addChange l dC dI cT H.size pL lS aK aC aT aP lL lC lA lP k 1000000000000 ks cs tb pn (by first | omega | assumption) (by first | omega | assumption)) (cwV 2 hts (zgV wd_215 wd_216 wd_217 wd_4 wd_218) rfl rfl rfl (by decide +kernel) ⟨Nat.le_of_ble_eq_true rfl, Nat.le_of_ble_eq_true rfl⟩) ⟨zPre_blind, va_recv hK hP (ci := 1) (q0 := 1) rfl rfl, zp_Q (X := [(h0, zoPr pL pT pD pB pS so pR), (pL, zoLg lS aK aC aT aP lL lC lA lP), (aK, zaI (cT 0) 801 ks), (aC, zaJ (cT 1) 801 cs), (aT, zaJ (cT 1) 32 tb), (aP, zaN (cT 0) 8 pn), (pT, zoTx xK xR (ch + 1) op), (xK, zaN (cT 0) 4 (va_up tk ch k)), (xR, zaJ (cT 1) 4 (va_up tr ch (tb k)))]) (pl := []) hK hE hP hD [1, 2, 3, 4, 5] (by decide) rfl⟩ rfl rfl hl.1 rfl (lv_room (Nat.le_of_ble_eq_true rfl)) d_Pr_put_80 ⟨Nat.le_of_ble_eq_true rfl, Nat.le_of_ble_eq_true rfl⟩) hP hD hS hA [1, 2, 3, 4, 5] [0, 6, 7, 8] rfl (wr := [(h0, zoPr pL pT pD pB pS so pR), (pT, zoTx xK xR (ch + 1) op), (xK, zaN (cT 0) 4 (va_up tk ch k)), (xR, zaJ (cT 1) 4 (va_up tr ch (tb k)))]) rfl (by decide) (by decide) (fun zu => [.int (nI (lL + 1))]) (fun _ => rfl) (fun zu H locs hφ hP hD hS => ?_)
    have hP : va_P (dC, dI) vwCl ([(h0, zoPr pL pT pD pB pS so pR), (pT, zoTx xK xR (ch + 1) op), (xK, zaN (cT 0) 4 (va_up tk ch k)), (xR, zaJ (cT 1) 4 (va_up tr ch (tb k))), (pL, zoLg lS aK aC aT aP (lL + 1) lC lA lP), (aK, zaI (cT 0) 801 (va_up ks (lL + 1) (nI k))), (aC, zaJ (cT 1) 801 (va_up cs (lL + 1) 1000000000000)), (aT, zaJ (cT 1) 32 (va_up tb k 1000000000000)), (aP, zaN (cT 0) 8 (va_up pn (k / 4) (lL + 1)))]) H := hP
    have hD : va_D A ([(h0, zoPr pL pT pD pB pS so pR), (pT, zoTx xK xR (ch + 1) op), (xK, zaN (cT 0) 4 (va_up tk ch k)), (xR, zaJ (cT 1) 4 (va_up tr ch (tb k))), (pL, zoLg lS aK aC aT aP (lL + 1) lC lA lP), (aK, zaI (cT 0) 801 (va_up ks (lL + 1) (nI k))), (aC, zaJ (cT 1) 801 (va_up cs (lL + 1) 1000000000000)), (aT, zaJ (cT 1) 32 (va_up tb k 1000000000000)), (aP, zaN (cT 0) 8 (va_up pn (k / 4) (lL + 1)))]) := hD
    have hP9 := hP.sub (ws' := [(h0, zoPr pL pT pD pB pS so pR), (pT, zoTx xK xR (ch + 1) op), (xK, zaN (cT 0) 4 (va_up tk ch k)), (xR, zaJ (cT 1) 4 (va_up tr ch (tb k))), (pL, zoLg lS aK aC aT aP (lL + 1) lC lA lP), (aK, zaI (cT 0) 801 (va_up ks (lL + 1) (nI k))), (aC, zaJ (cT 1) 801 (va_up cs (lL + 1) 1000000000000)), (aT, zaJ (cT 1) 32 (va_up tb k 1000000000000)), (aP, zaN (cT 0) 8 (va_up pn (k / 4) (lL + 1)))]) [0, 1, 2, 3, 4, 5, 6, 7, 8] rfl
    have hD9 := hD.sub (ws' := [(h0, zoPr pL pT pD pB pS so pR), (pT, zoTx xK xR (ch + 1) op), (xK, zaN (cT 0) 4 (va_up tk ch k)), (xR, zaJ (cT 1) 4 (va_up tr ch (tb k))), (pL, zoLg lS aK aC aT aP (lL + 1) lC lA lP), (aK, zaI (cT 0) 801 (va_up ks (lL + 1) (nI k))), (aC, zaJ (cT 1) 801 (va_up cs (lL + 1) 1000000000000)), (aT, zaJ (cT 1) 32 (va_up tb k 1000000000000)), (aP, zaN (cT 0) 8 (va_up pn (k / 4) (lL + 1)))]) [0, 1, 2, 3, 4, 5, 6, 7, 8] (by decide) rfl
    have hP9 : va_P (dC, dI) vwCl ([(h0, zoPr pL pT pD pB pS so pR), (pT, zoTx xK xR (ch + 1) op), (xK, zaN (cT 0) 4 (va_up tk ch k)), (xR, zaJ (cT 1) 4 (va_up tr ch (tb k))), (pL, zoLg lS aK aC aT aP (lL + 1) lC lA lP), (aK, zaI (cT 0) 801 (va_up ks (lL + 1) (nI k))), (aC, zaJ (cT 1) 801 (va_up cs (lL + 1) (if b = true then v.toInt64 else 1000000000000))), (aT, zaJ (cT 1) 32 (va_up tb k (if b = true then v.toInt64 else 1000000000000))), (aP, zaN (cT 0) 8 (va_up pn (k / 4) (lL + 1)))]) H := by rw [if_neg (by rw [c_69]; decide)]; exact hP9
    have hD9 : va_D A ([(h0, zoPr pL pT pD pB pS so pR), (pT, zoTx xK xR (ch + 1) op), (xK, zaN (cT 0) 4 (va_up tk ch k)), (xR, zaJ (cT 1) 4 (va_up tr ch (tb k))), (pL, zoLg lS aK aC aT aP (lL + 1) lC lA lP), (aK, zaI (cT 0) 801 (va_up ks (lL + 1) (nI k))), (aC, zaJ (cT 1) 801 (va_up cs (lL + 1) (if b = true then v.toInt64 else 1000000000000))), (aT, zaJ (cT 1) 32 (va_up tb k (if b = true then v.toInt64 else 1000000000000))), (aP, zaN (cT 0) 8 (va_up pn (k / 4) (lL + 1)))]) := by rw [if_neg (by rw [c_69]; decide)]; exact hD9
    exact W.iret hx hb hr (fun t ht hW => ⟨⟨(), trivial, rfl, by rw [ht]; exact hP9, hD9⟩, hS.F ht⟩) hS.2.2 d_Pr_put_83
  · refine lv_iload_n hx hb d_Pr_put_72 rfl (lv_at hl 3 rfl) ?_
    refine lv_i2l hx hb d_Pr_put_73 rfl ?_
    refine lv_goto (tgt := 80) hx hb d_Pr_put_74 (by decide) ?_
    refine zw_Q (X := [(h0, zoPr pL pT pD pB pS so pR), (pL, zoLg lS aK aC aT aP lL lC lA lP), (aK, zaI (cT 0) 801 ks), (aC, zaJ (cT 1) 801 cs), (aT, zaJ (cT 1) 32 tb), (aP, zaN (cT 0) 8 pn), (pT, zoTx xK xR (ch + 1) op), (xK, zaN (cT 0) 4 (va_up tk ch k)), (xR, zaJ (cT 1) 4 (va_up tr ch (tb k)))]) (pl := []) (va_runV (As := [.int (nI k), .long v.toInt64]) (rest := []) ⟨hx, hb, hml, hown, hts⟩ (c_Lg_addChange l dC dI cT H.size pL lS aK aC aT aP lL lC lA lP k v.toInt64 ks cs tb pn (by first | omega | assumption) (by first | omega | assumption)) (cwV 2 hts (zgV wd_215 wd_216 wd_217 wd_4 wd_218) rfl rfl rfl (by decide +kernel) ⟨Nat.le_of_ble_eq_true rfl, Nat.le_of_ble_eq_true rfl⟩) ⟨zPre_blind, va_recv hK hP (ci := 1) (q0 := 1) rfl rfl, zp_Q (X := [(h0, zoPr pL pT pD pB pS so pR), (pL, zoLg lS aK aC aT aP lL lC lA lP), (aK, zaI (cT 0) 801 ks), (aC, zaJ (cT 1) 801 cs), (aT, zaJ (cT 1) 32 tb), (aP, zaN (cT 0) 8 pn), (pT, zoTx xK xR (ch + 1) op), (xK, zaN (cT 0) 4 (va_up tk ch k)), (xR, zaJ (cT 1) 4 (va_up tr ch (tb k)))]) (pl := []) hK hE hP hD [1, 2, 3, 4, 5] (by decide) rfl⟩ rfl rfl hl.1 rfl (lv_room (Nat.le_of_ble_eq_true rfl)) d_Pr_put_80 ⟨Nat.le_of_ble_eq_true rfl, Nat.le_of_ble_eq_true rfl⟩) hP hD hS hA [1, 2, 3, 4, 5] [0, 6, 7, 8] rfl (wr := [(h0, zoPr pL pT pD pB pS so pR), (pT, zoTx xK xR (ch + 1) op), (xK, zaN (cT 0) 4 (va_up tk ch k)), (xR, zaJ (cT 1) 4 (va_up tr ch (tb k)))]) rfl (by decide) (by decide) (fun zu => [.int (nI (lL + 1))]) (fun _ => rfl) (fun zu H locs hφ hP hD hS => ?_)
    have hP : va_P (dC, dI) vwCl ([(h0, zoPr pL pT pD pB pS so pR), (pT, zoTx xK xR (ch + 1) op), (xK, zaN (cT 0) 4 (va_up tk ch k)), (xR, zaJ (cT 1) 4 (va_up tr ch (tb k))), (pL, zoLg lS aK aC aT aP (lL + 1) lC lA lP), (aK, zaI (cT 0) 801 (va_up ks (lL + 1) (nI k))), (aC, zaJ (cT 1) 801 (va_up cs (lL + 1) v.toInt64)), (aT, zaJ (cT 1) 32 (va_up tb k v.toInt64)), (aP, zaN (cT 0) 8 (va_up pn (k / 4) (lL + 1)))]) H := hP
    have hD : va_D A ([(h0, zoPr pL pT pD pB pS so pR), (pT, zoTx xK xR (ch + 1) op), (xK, zaN (cT 0) 4 (va_up tk ch k)), (xR, zaJ (cT 1) 4 (va_up tr ch (tb k))), (pL, zoLg lS aK aC aT aP (lL + 1) lC lA lP), (aK, zaI (cT 0) 801 (va_up ks (lL + 1) (nI k))), (aC, zaJ (cT 1) 801 (va_up cs (lL + 1) v.toInt64)), (aT, zaJ (cT 1) 32 (va_up tb k v.toInt64)), (aP, zaN (cT 0) 8 (va_up pn (k / 4) (lL + 1)))]) := hD
    have hP9 := hP.sub (ws' := [(h0, zoPr pL pT pD pB pS so pR), (pT, zoTx xK xR (ch + 1) op), (xK, zaN (cT 0) 4 (va_up tk ch k)), (xR, zaJ (cT 1) 4 (va_up tr ch (tb k))), (pL, zoLg lS aK aC aT aP (lL + 1) lC lA lP), (aK, zaI (cT 0) 801 (va_up ks (lL + 1) (nI k))), (aC, zaJ (cT 1) 801 (va_up cs (lL + 1) v.toInt64)), (aT, zaJ (cT 1) 32 (va_up tb k v.toInt64)), (aP, zaN (cT 0) 8 (va_up pn (k / 4) (lL + 1)))]) [0, 1, 2, 3, 4, 5, 6, 7, 8] rfl
    have hD9 := hD.sub (ws' := [(h0, zoPr pL pT pD pB pS so pR), (pT, zoTx xK xR (ch + 1) op), (xK, zaN (cT 0) 4 (va_up tk ch k)), (xR, zaJ (cT 1) 4 (va_up tr ch (tb k))), (pL, zoLg lS aK aC aT aP (lL + 1) lC lA lP), (aK, zaI (cT 0) 801 (va_up ks (lL + 1) (nI k))), (aC, zaJ (cT 1) 801 (va_up cs (lL + 1) v.toInt64)), (aT, zaJ (cT 1) 32 (va_up tb k v.toInt64)), (aP, zaN (cT 0) 8 (va_up pn (k / 4) (lL + 1)))]) [0, 1, 2, 3, 4, 5, 6, 7, 8] (by decide) rfl
    have hP9 : va_P (dC, dI) vwCl ([(h0, zoPr pL pT pD pB pS so pR), (pT, zoTx xK xR (ch + 1) op), (xK, zaN (cT 0) 4 (va_up tk ch k)), (xR, zaJ (cT 1) 4 (va_up tr ch (tb k))), (pL, zoLg lS aK aC aT aP (lL + 1) lC lA lP), (aK, zaI (cT 0) 801 (va_up ks (lL + 1) (nI k))), (aC, zaJ (cT 1) 801 (va_up cs (lL + 1) (if b = true then v.toInt64 else 1000000000000))), (aT, zaJ (cT 1) 32 (va_up tb k (if b = true then v.toInt64 else 1000000000000))), (aP, zaN (cT 0) 8 (va_up pn (k / 4) (lL + 1)))]) H := by rw [if_pos c_69]; exact hP9
    have hD9 : va_D A ([(h0, zoPr pL pT pD pB pS so pR), (pT, zoTx xK xR (ch + 1) op), (xK, zaN (cT 0) 4 (va_up tk ch k)), (xR, zaJ (cT 1) 4 (va_up tr ch (tb k))), (pL, zoLg lS aK aC aT aP (lL + 1) lC lA lP), (aK, zaI (cT 0) 801 (va_up ks (lL + 1) (nI k))), (aC, zaJ (cT 1) 801 (va_up cs (lL + 1) (if b = true then v.toInt64 else 1000000000000))), (aT, zaJ (cT 1) 32 (va_up tb k (if b = true then v.toInt64 else 1000000000000))), (aP, zaN (cT 0) 8 (va_up pn (k / 4) (lL + 1)))]) := by rw [if_pos c_69]; exact hD9
    exact W.iret hx hb hr (fun t ht hW => ⟨⟨(), trivial, rfl, by rw [ht]; exact hP9, hD9⟩, hS.F ht⟩) hS.2.2 d_Pr_put_83
set_option maxHeartbeats 4000000 in
set_option maxRecDepth 100000 in
theorem c_Pr_commit_ref (l : Launch) (dC : Nat → ClassId) (dI : Nat → Nat → Nat) (cT : Nat → ClassId) (sz : Nat) (h0 : Nat) (pL : Nat) (pT : Nat) (pD : Nat) (pB : Nat) (pS : Nat) (pR : Nat) (so : Bool) (xK : Nat) (xR : Nat) (ch : Nat) (op : Bool) (ho : op = false) : Met l y_Pr_commit w_Pr_commit ({ frames := 1, cells := 0, slots := 0, locals := 20 } : Room) (zPre (dC, dI) vwCl (zT cT) [.ref h0] ([(h0, zoPr pL pT pD pB pS so pR), (pT, zoTx xK xR ch op)]) sz) (zQ (dC, dI) vwCl (S := Unit) (fun zu => True) (fun zu => some (.int (-1))) (fun zu => [(h0, zoPr pL pT pD pB pS so pR), (pT, zoTx xK xR ch op)]) (va_A ([(h0, zoPr pL pT pD pB pS so pR), (pT, zoTx xK xR ch op)]) sz)) 0 0 (va_A ([(h0, zoPr pL pT pD pB pS so pR), (pT, zoTx xK xR ch op)]) sz) := by
  refine Met.ofW (cc := b_Pr_commit) (maxL := 1) (ret := (some .int)) (by decide) rfl ?_
  intro p e s m args below meth c s₁ B hml hv
  obtain ⟨rfl, hsz, hP, hK, hD0, hE⟩ := hv
  have hx := B.exec
  have hb := B.bytes
  have hr := B.returns
  have hts := fun w h => atoms_spec (ws := w_Pr_commit) B.pre w (List.mem_cons_of_mem _ h)
  have hown : s.vm.findClass R_Pr = some m.cls := findClass_of_methodNamed B.named
  have hlocks := B.notSynchronized
  subst hsz
  have hD := hD0.self (sz := s.heap.size)
  generalize hAe : va_A ([(h0, zoPr pL pT pD pB pS so pR), (pT, zoTx xK xR ch op)]) s.heap.size = A at hD ⊢
  have hA : ∀ q : Nat, s.heap.size ≤ q → A q := fun q h => by rw [← hAe]; exact Or.inr h
  have hS : va_S A s.heap s.heap [] := va_S.rf
  have hl := lv_entry ([.ref h0]) (n := 1) (Nat.le_of_ble_eq_true rfl)
  rw [lg_entry_eq]
  generalize (lg_sl ([.ref h0]) ++ List.replicate (1 - (lg_sl ([.ref h0])).length) Slot.unset).toArray = ls at hl ⊢
  have hl : lv_has ls 1 [(0, .ref h0)] := hl
  refine lv_aload_n hx hb d_Pr_commit_0 rfl (lv_at hl 0 rfl) ?_
  refine va_get (D := (dC, dI)) (ci := 0) (v := .ref pT) (C := R_Pr) (T := F_Pr) (N := 7) hx hb hts i_Pr hown hK hP 0 rfl rfl 1 (by decide) (hts _ wd_153) (fun _ h9 => h9) rfl d_Pr_commit_1 ?_
  refine zw_R (r := .int (zb op)) (va_runV (As := []) (rest := []) ⟨hx, hb, hml, hown, hts⟩ (c_Tx_isOpen l dC dI cT pT xK xR ch op) (cwV 0 hts (zgV wd_178 wd_179 wd_180 wd_2 wd_181) rfl rfl rfl (by decide +kernel) ⟨Nat.le_of_ble_eq_true rfl, Nat.le_of_ble_eq_true rfl⟩) ⟨zPreR_blind, va_recv hK hP (ci := 2) (q0 := 1) rfl rfl, zp_R hK hE (zSub (X := [(h0, zoPr pL pT pD pB pS so pR), (pT, zoTx xK xR ch op)]) (pl := []) hP [1] rfl)⟩ rfl rfl hl.1 rfl (lv_room (Nat.le_of_ble_eq_true rfl)) d_Pr_commit_4 ⟨Nat.le_of_ble_eq_true rfl, Nat.le_of_ble_eq_true rfl⟩) ?_
  refine zb_if_ne (tgt := 12) hx hb d_Pr_commit_7 (by decide) (fun c_7 => absurd c_7 (by rw [ho]; decide)) (fun c_7 => ?_)
  refine lv_iconst (v := (-1)) hx hb d_Pr_commit_10 (by decide) ?_
  have hP9 := hP.sub (ws' := [(h0, zoPr pL pT pD pB pS so pR), (pT, zoTx xK xR ch op)]) [0, 1] rfl
  have hD9 := hD.sub (ws' := [(h0, zoPr pL pT pD pB pS so pR), (pT, zoTx xK xR ch op)]) [0, 1] (by decide) rfl
  exact W.iret hx hb hr (fun t ht hW => ⟨⟨(), trivial, rfl, by rw [ht]; exact hP9, hD9⟩, hS.F ht⟩) hS.2.2 d_Pr_commit_11
set_option maxHeartbeats 4000000 in
set_option maxRecDepth 100000 in
theorem c_Pr_commit_full (l : Launch) (dC : Nat → ClassId) (dI : Nat → Nat → Nat) (cT : Nat → ClassId) (sz : Nat) (h0 : Nat) (pL : Nat) (pT : Nat) (pD : Nat) (pB : Nat) (pS : Nat) (pR : Nat) (so : Bool) (xK : Nat) (xR : Nat) (ch : Nat) (op : Bool) (lS : Nat) (aK : Nat) (aC : Nat) (aT : Nat) (aP : Nat) (lL : Nat) (lC : Nat) (lA : Nat) (lP : Nat) (ho : op = true) (hm : (lA + 4) * lS < 2 ^ 31) (hl0 : lL ≤ min ((lA + 4) * lS) 800) (hfu : min ((lA + 4) * lS) 800 - lL = 0) : Met l y_Pr_commit w_Pr_commit ({ frames := 2, cells := 0, slots := 0, locals := 41 } : Room) (zPre (dC, dI) vwCl (zT cT) [.ref h0] ([(h0, zoPr pL pT pD pB pS so pR), (pT, zoTx xK xR ch op), (pL, zoLg lS aK aC aT aP lL lC lA lP)]) sz) (zQ (dC, dI) vwCl (S := Unit) (fun zu => True) (fun zu => some (.int (-2))) (fun zu => [(h0, zoPr pL pT pD pB pS so pR), (pT, zoTx xK xR ch op), (pL, zoLg lS aK aC aT aP lL lC lA lP)]) (va_A ([(h0, zoPr pL pT pD pB pS so pR), (pT, zoTx xK xR ch op), (pL, zoLg lS aK aC aT aP lL lC lA lP)]) sz)) 0 0 (va_A ([(h0, zoPr pL pT pD pB pS so pR), (pT, zoTx xK xR ch op), (pL, zoLg lS aK aC aT aP lL lC lA lP)]) sz) := by
  refine Met.ofW (cc := b_Pr_commit) (maxL := 1) (ret := (some .int)) (by decide) rfl ?_
  intro p e s m args below meth c s₁ B hml hv
  obtain ⟨rfl, hsz, hP, hK, hD0, hE⟩ := hv
  have hx := B.exec
  have hb := B.bytes
  have hr := B.returns
  have hts := fun w h => atoms_spec (ws := w_Pr_commit) B.pre w (List.mem_cons_of_mem _ h)
  have hown : s.vm.findClass R_Pr = some m.cls := findClass_of_methodNamed B.named
  have hlocks := B.notSynchronized
  subst hsz
  have hD := hD0.self (sz := s.heap.size)
  generalize hAe : va_A ([(h0, zoPr pL pT pD pB pS so pR), (pT, zoTx xK xR ch op), (pL, zoLg lS aK aC aT aP lL lC lA lP)]) s.heap.size = A at hD ⊢
  have hA : ∀ q : Nat, s.heap.size ≤ q → A q := fun q h => by rw [← hAe]; exact Or.inr h
  have hS : va_S A s.heap s.heap [] := va_S.rf
  have hl := lv_entry ([.ref h0]) (n := 1) (Nat.le_of_ble_eq_true rfl)
  rw [lg_entry_eq]
  generalize (lg_sl ([.ref h0]) ++ List.replicate (1 - (lg_sl ([.ref h0])).length) Slot.unset).toArray = ls at hl ⊢
  have hl : lv_has ls 1 [(0, .ref h0)] := hl
  refine lv_aload_n hx hb d_Pr_commit_0 rfl (lv_at hl 0 rfl) ?_
  refine va_get (D := (dC, dI)) (ci := 0) (v := .ref pT) (C := R_Pr) (T := F_Pr) (N := 7) hx hb hts i_Pr hown hK hP 0 rfl rfl 1 (by decide) (hts _ wd_153) (fun _ h9 => h9) rfl d_Pr_commit_1 ?_
  refine zw_R (r := .int (zb op)) (va_runV (As := []) (rest := []) ⟨hx, hb, hml, hown, hts⟩ (c_Tx_isOpen l dC dI cT pT xK xR ch op) (cwV 0 hts (zgV wd_178 wd_179 wd_180 wd_2 wd_181) rfl rfl rfl (by decide +kernel) ⟨Nat.le_of_ble_eq_true rfl, Nat.le_of_ble_eq_true rfl⟩) ⟨zPreR_blind, va_recv hK hP (ci := 2) (q0 := 1) rfl rfl, zp_R hK hE (zSub (X := [(h0, zoPr pL pT pD pB pS so pR), (pT, zoTx xK xR ch op), (pL, zoLg lS aK aC aT aP lL lC lA lP)]) (pl := []) hP [1] rfl)⟩ rfl rfl hl.1 rfl (lv_room (Nat.le_of_ble_eq_true rfl)) d_Pr_commit_4 ⟨Nat.le_of_ble_eq_true rfl, Nat.le_of_ble_eq_true rfl⟩) ?_
  refine zb_if_ne (tgt := 12) hx hb d_Pr_commit_7 (by decide) (fun c_7 => ?_) (fun c_7 => absurd c_7 (by rw [ho]; decide))
  refine lv_aload_n hx hb d_Pr_commit_12 rfl (lv_at hl 0 rfl) ?_
  refine va_get (D := (dC, dI)) (ci := 0) (v := .ref pL) (C := R_Pr) (T := F_Pr) (N := 7) hx hb hts i_Pr hown hK hP 0 rfl rfl 0 (by decide) (hts _ wd_152) (fun _ h9 => h9) rfl d_Pr_commit_13 ?_
  refine zw_R (r := .int (nI (min ((lA + 4) * lS) 800 - lL))) (va_runV (As := []) (rest := []) ⟨hx, hb, hml, hown, hts⟩ (c_Lg_left l dC dI cT pL lS aK aC aT aP lL lC lA lP (by first | omega | assumption) (by first | omega | assumption)) (cwV 0 hts (zgV wd_201 wd_202 wd_203 wd_4 wd_204) rfl rfl rfl (by decide +kernel) ⟨Nat.le_of_ble_eq_true rfl, Nat.le_of_ble_eq_true rfl⟩) ⟨zPreR_blind, va_recv hK hP (ci := 1) (q0 := 2) rfl rfl, zp_R hK hE (zSub (X := [(h0, zoPr pL pT pD pB pS so pR), (pT, zoTx xK xR ch op), (pL, zoLg lS aK aC aT aP lL lC lA lP)]) (pl := []) hP [2] rfl)⟩ rfl rfl hl.1 rfl (lv_room (Nat.le_of_ble_eq_true rfl)) d_Pr_commit_16 ⟨Nat.le_of_ble_eq_true rfl, Nat.le_of_ble_eq_true rfl⟩) ?_
  refine zn_if_ne (tgt := 25) hx hb (a := min ((lA + 4) * lS) 800 - lL) (by omega) d_Pr_commit_19 (by decide) (fun c_19 => absurd c_19 (by omega)) (fun c_19 => ?_)
  refine lv_bipush (v := (-2)) hx hb d_Pr_commit_22 (by decide) ?_
  have hP9 := hP.sub (ws' := [(h0, zoPr pL pT pD pB pS so pR), (pT, zoTx xK xR ch op), (pL, zoLg lS aK aC aT aP lL lC lA lP)]) [0, 1, 2] rfl
  have hD9 := hD.sub (ws' := [(h0, zoPr pL pT pD pB pS so pR), (pT, zoTx xK xR ch op), (pL, zoLg lS aK aC aT aP lL lC lA lP)]) [0, 1, 2] (by decide) rfl
  exact W.iret hx hb hr (fun t ht hW => ⟨⟨(), trivial, rfl, by rw [ht]; exact hP9, hD9⟩, hS.F ht⟩) hS.2.2 d_Pr_commit_24
set_option maxHeartbeats 4000000 in
set_option maxRecDepth 100000 in
theorem c_Pr_commit_ok (l : Launch) (dC : Nat → ClassId) (dI : Nat → Nat → Nat) (cT : Nat → ClassId) (sz : Nat) (h0 : Nat) (pL : Nat) (pT : Nat) (pD : Nat) (pB : Nat) (pS : Nat) (pR : Nat) (so : Bool) (xK : Nat) (xR : Nat) (ch : Nat) (op : Bool) (lS : Nat) (aK : Nat) (aC : Nat) (aT : Nat) (aP : Nat) (lL : Nat) (lC : Nat) (lA : Nat) (lP : Nat) (ks : Nat → Int32) (cs : Nat → Int64) (ho : op = true) (hm : (lA + 4) * lS < 2 ^ 31) (hl0 : lL ≤ min ((lA + 4) * lS) 800) (hfu : ¬ min ((lA + 4) * lS) 800 - lL = 0) (hC : lC < 2 ^ 30) : Met l y_Pr_commit w_Pr_commit ({ frames := 2, cells := 0, slots := 0, locals := 43 } : Room) (zPre (dC, dI) vwCl (zT cT) [.ref h0] ([(h0, zoPr pL pT pD pB pS so pR), (pT, zoTx xK xR ch op), (pL, zoLg lS aK aC aT aP lL lC lA lP), (aK, zaI (cT 0) 801 ks), (aC, zaJ (cT 1) 801 cs)]) sz) (zQ (dC, dI) vwCl (S := Unit) (fun zu => True) (fun zu => some (.int (nI (lC + 1)))) (fun zu => [(h0, zoPr pL pT pD pB pS so pR), (pT, zoTx xK xR 0 false), (pL, zoLg lS aK aC aT aP (lL + 1) (lC + 1) lA lP), (aK, zaI (cT 0) 801 (va_up ks (lL + 1) (-1))), (aC, zaJ (cT 1) 801 (va_up cs (lL + 1) 1000000000000))]) (va_A ([(h0, zoPr pL pT pD pB pS so pR), (pT, zoTx xK xR ch op), (pL, zoLg lS aK aC aT aP lL lC lA lP), (aK, zaI (cT 0) 801 ks), (aC, zaJ (cT 1) 801 cs)]) sz)) 0 0 (va_A ([(h0, zoPr pL pT pD pB pS so pR), (pT, zoTx xK xR ch op), (pL, zoLg lS aK aC aT aP lL lC lA lP), (aK, zaI (cT 0) 801 ks), (aC, zaJ (cT 1) 801 cs)]) sz) := by
  refine Met.ofW (cc := b_Pr_commit) (maxL := 1) (ret := (some .int)) (by decide) rfl ?_
  intro p e s m args below meth c s₁ B hml hv
  obtain ⟨rfl, hsz, hP, hK, hD0, hE⟩ := hv
  have hx := B.exec
  have hb := B.bytes
  have hr := B.returns
  have hts := fun w h => atoms_spec (ws := w_Pr_commit) B.pre w (List.mem_cons_of_mem _ h)
  have hown : s.vm.findClass R_Pr = some m.cls := findClass_of_methodNamed B.named
  have hlocks := B.notSynchronized
  subst hsz
  have hD := hD0.self (sz := s.heap.size)
  generalize hAe : va_A ([(h0, zoPr pL pT pD pB pS so pR), (pT, zoTx xK xR ch op), (pL, zoLg lS aK aC aT aP lL lC lA lP), (aK, zaI (cT 0) 801 ks), (aC, zaJ (cT 1) 801 cs)]) s.heap.size = A at hD ⊢
  have hA : ∀ q : Nat, s.heap.size ≤ q → A q := fun q h => by rw [← hAe]; exact Or.inr h
  have hS : va_S A s.heap s.heap [] := va_S.rf
  have hl := lv_entry ([.ref h0]) (n := 1) (Nat.le_of_ble_eq_true rfl)
  rw [lg_entry_eq]
  generalize (lg_sl ([.ref h0]) ++ List.replicate (1 - (lg_sl ([.ref h0])).length) Slot.unset).toArray = ls at hl ⊢
  have hl : lv_has ls 1 [(0, .ref h0)] := hl
  refine lv_aload_n hx hb d_Pr_commit_0 rfl (lv_at hl 0 rfl) ?_
  refine va_get (D := (dC, dI)) (ci := 0) (v := .ref pT) (C := R_Pr) (T := F_Pr) (N := 7) hx hb hts i_Pr hown hK hP 0 rfl rfl 1 (by decide) (hts _ wd_153) (fun _ h9 => h9) rfl d_Pr_commit_1 ?_
  refine zw_R (r := .int (zb op)) (va_runV (As := []) (rest := []) ⟨hx, hb, hml, hown, hts⟩ (c_Tx_isOpen l dC dI cT pT xK xR ch op) (cwV 0 hts (zgV wd_178 wd_179 wd_180 wd_2 wd_181) rfl rfl rfl (by decide +kernel) ⟨Nat.le_of_ble_eq_true rfl, Nat.le_of_ble_eq_true rfl⟩) ⟨zPreR_blind, va_recv hK hP (ci := 2) (q0 := 1) rfl rfl, zp_R hK hE (zSub (X := [(h0, zoPr pL pT pD pB pS so pR), (pT, zoTx xK xR ch op), (pL, zoLg lS aK aC aT aP lL lC lA lP), (aK, zaI (cT 0) 801 ks), (aC, zaJ (cT 1) 801 cs)]) (pl := []) hP [1] rfl)⟩ rfl rfl hl.1 rfl (lv_room (Nat.le_of_ble_eq_true rfl)) d_Pr_commit_4 ⟨Nat.le_of_ble_eq_true rfl, Nat.le_of_ble_eq_true rfl⟩) ?_
  refine zb_if_ne (tgt := 12) hx hb d_Pr_commit_7 (by decide) (fun c_7 => ?_) (fun c_7 => absurd c_7 (by rw [ho]; decide))
  refine lv_aload_n hx hb d_Pr_commit_12 rfl (lv_at hl 0 rfl) ?_
  refine va_get (D := (dC, dI)) (ci := 0) (v := .ref pL) (C := R_Pr) (T := F_Pr) (N := 7) hx hb hts i_Pr hown hK hP 0 rfl rfl 0 (by decide) (hts _ wd_152) (fun _ h9 => h9) rfl d_Pr_commit_13 ?_
  refine zw_R (r := .int (nI (min ((lA + 4) * lS) 800 - lL))) (va_runV (As := []) (rest := []) ⟨hx, hb, hml, hown, hts⟩ (c_Lg_left l dC dI cT pL lS aK aC aT aP lL lC lA lP (by first | omega | assumption) (by first | omega | assumption)) (cwV 0 hts (zgV wd_201 wd_202 wd_203 wd_4 wd_204) rfl rfl rfl (by decide +kernel) ⟨Nat.le_of_ble_eq_true rfl, Nat.le_of_ble_eq_true rfl⟩) ⟨zPreR_blind, va_recv hK hP (ci := 1) (q0 := 2) rfl rfl, zp_R hK hE (zSub (X := [(h0, zoPr pL pT pD pB pS so pR), (pT, zoTx xK xR ch op), (pL, zoLg lS aK aC aT aP lL lC lA lP), (aK, zaI (cT 0) 801 ks), (aC, zaJ (cT 1) 801 cs)]) (pl := []) hP [2] rfl)⟩ rfl rfl hl.1 rfl (lv_room (Nat.le_of_ble_eq_true rfl)) d_Pr_commit_16 ⟨Nat.le_of_ble_eq_true rfl, Nat.le_of_ble_eq_true rfl⟩) ?_
  refine zn_if_ne (tgt := 25) hx hb (a := min ((lA + 4) * lS) 800 - lL) (by omega) d_Pr_commit_19 (by decide) (fun c_19 => ?_) (fun c_19 => absurd c_19 (by omega))
  refine lv_aload_n hx hb d_Pr_commit_25 rfl (lv_at hl 0 rfl) ?_
  refine va_get (D := (dC, dI)) (ci := 0) (v := .ref pT) (C := R_Pr) (T := F_Pr) (N := 7) hx hb hts i_Pr hown hK hP 0 rfl rfl 1 (by decide) (hts _ wd_153) (fun _ h9 => h9) rfl d_Pr_commit_26 ?_
  refine zw_Q (X := [(h0, zoPr pL pT pD pB pS so pR), (pT, zoTx xK xR ch op), (pL, zoLg lS aK aC aT aP lL lC lA lP), (aK, zaI (cT 0) 801 ks), (aC, zaJ (cT 1) 801 cs)]) (pl := []) (va_runV (As := []) (rest := []) ⟨hx, hb, hml, hown, hts⟩ (c_Tx_close l dC dI cT s.heap.size pT xK xR ch op) (cwV 0 hts (zgV wd_227 wd_228 wd_229 wd_2 wd_230) rfl rfl rfl (by decide +kernel) ⟨Nat.le_of_ble_eq_true rfl, Nat.le_of_ble_eq_true rfl⟩) ⟨zPre_blind, va_recv hK hP (ci := 2) (q0 := 1) rfl rfl, zp_Q (X := [(h0, zoPr pL pT pD pB pS so pR), (pT, zoTx xK xR ch op), (pL, zoLg lS aK aC aT aP lL lC lA lP), (aK, zaI (cT 0) 801 ks), (aC, zaJ (cT 1) 801 cs)]) (pl := []) hK hE hP hD [1] (by decide) rfl⟩ rfl rfl hl.1 rfl (lv_room (Nat.le_of_ble_eq_true rfl)) d_Pr_commit_29 ⟨Nat.le_of_ble_eq_true rfl, Nat.le_of_ble_eq_true rfl⟩) hP hD hS hA [1] [0, 2, 3, 4] rfl (wr := [(h0, zoPr pL pT pD pB pS so pR), (pL, zoLg lS aK aC aT aP lL lC lA lP), (aK, zaI (cT 0) 801 ks), (aC, zaJ (cT 1) 801 cs)]) rfl (by decide) (by decide) (fun zu => []) (fun _ => rfl) (fun zu H locs hφ hP hD hS => ?_)
  have hP : va_P (dC, dI) vwCl ([(h0, zoPr pL pT pD pB pS so pR), (pL, zoLg lS aK aC aT aP lL lC lA lP), (aK, zaI (cT 0) 801 ks), (aC, zaJ (cT 1) 801 cs), (pT, zoTx xK xR 0 false)]) H := hP
  have hD : va_D A ([(h0, zoPr pL pT pD pB pS so pR), (pL, zoLg lS aK aC aT aP lL lC lA lP), (aK, zaI (cT 0) 801 ks), (aC, zaJ (cT 1) 801 cs), (pT, zoTx xK xR 0 false)]) := hD
  refine lv_aload_n hx hb d_Pr_commit_32 rfl (lv_at hl 0 rfl) ?_
  refine va_get (D := (dC, dI)) (ci := 0) (v := .ref pL) (C := R_Pr) (T := F_Pr) (N := 7) hx hb hts i_Pr hown hK hP 0 rfl rfl 0 (by decide) (hts _ wd_152) (fun _ h9 => h9) rfl d_Pr_commit_33 ?_
  refine zw_Q (X := [(h0, zoPr pL pT pD pB pS so pR), (pL, zoLg lS aK aC aT aP lL lC lA lP), (aK, zaI (cT 0) 801 ks), (aC, zaJ (cT 1) 801 cs), (pT, zoTx xK xR 0 false)]) (pl := []) (va_runV (As := []) (rest := []) ⟨hx, hb, hml, hown, hts⟩ (c_Lg_addCommit l dC dI cT H.size pL lS aK aC aT aP lL lC lA lP ks cs (by first | omega | assumption) (by first | omega | assumption)) (cwV 0 hts (zgV wd_231 wd_232 wd_233 wd_4 wd_234) rfl rfl rfl (by decide +kernel) ⟨Nat.le_of_ble_eq_true rfl, Nat.le_of_ble_eq_true rfl⟩) ⟨zPre_blind, va_recv hK hP (ci := 1) (q0 := 1) rfl rfl, zp_Q (X := [(h0, zoPr pL pT pD pB pS so pR), (pL, zoLg lS aK aC aT aP lL lC lA lP), (aK, zaI (cT 0) 801 ks), (aC, zaJ (cT 1) 801 cs), (pT, zoTx xK xR 0 false)]) (pl := []) hK hE hP hD [1, 2, 3] (by decide) rfl⟩ rfl rfl hl.1 rfl (lv_room (Nat.le_of_ble_eq_true rfl)) d_Pr_commit_36 ⟨Nat.le_of_ble_eq_true rfl, Nat.le_of_ble_eq_true rfl⟩) hP hD hS hA [1, 2, 3] [0, 4] rfl (wr := [(h0, zoPr pL pT pD pB pS so pR), (pT, zoTx xK xR 0 false)]) rfl (by decide) (by decide) (fun zu => [.int (nI (lC + 1))]) (fun _ => rfl) (fun zu H locs hφ hP hD hS => ?_)
  have hP : va_P (dC, dI) vwCl ([(h0, zoPr pL pT pD pB pS so pR), (pT, zoTx xK xR 0 false), (pL, zoLg lS aK aC aT aP (lL + 1) (lC + 1) lA lP), (aK, zaI (cT 0) 801 (va_up ks (lL + 1) (-1))), (aC, zaJ (cT 1) 801 (va_up cs (lL + 1) 1000000000000))]) H := hP
  have hD : va_D A ([(h0, zoPr pL pT pD pB pS so pR), (pT, zoTx xK xR 0 false), (pL, zoLg lS aK aC aT aP (lL + 1) (lC + 1) lA lP), (aK, zaI (cT 0) 801 (va_up ks (lL + 1) (-1))), (aC, zaJ (cT 1) 801 (va_up cs (lL + 1) 1000000000000))]) := hD
  have hP9 := hP.sub (ws' := [(h0, zoPr pL pT pD pB pS so pR), (pT, zoTx xK xR 0 false), (pL, zoLg lS aK aC aT aP (lL + 1) (lC + 1) lA lP), (aK, zaI (cT 0) 801 (va_up ks (lL + 1) (-1))), (aC, zaJ (cT 1) 801 (va_up cs (lL + 1) 1000000000000))]) [0, 1, 2, 3, 4] rfl
  have hD9 := hD.sub (ws' := [(h0, zoPr pL pT pD pB pS so pR), (pT, zoTx xK xR 0 false), (pL, zoLg lS aK aC aT aP (lL + 1) (lC + 1) lA lP), (aK, zaI (cT 0) 801 (va_up ks (lL + 1) (-1))), (aC, zaJ (cT 1) 801 (va_up cs (lL + 1) 1000000000000))]) [0, 1, 2, 3, 4] (by decide) rfl
  exact W.iret hx hb hr (fun t ht hW => ⟨⟨(), trivial, rfl, by rw [ht]; exact hP9, hD9⟩, hS.F ht⟩) hS.2.2 d_Pr_commit_39
set_option maxHeartbeats 4000000 in
set_option maxRecDepth 100000 in
theorem c_Pr_abort_ref (l : Launch) (dC : Nat → ClassId) (dI : Nat → Nat → Nat) (cT : Nat → ClassId) (sz : Nat) (h0 : Nat) (pL : Nat) (pT : Nat) (pD : Nat) (pB : Nat) (pS : Nat) (pR : Nat) (so : Bool) (xK : Nat) (xR : Nat) (ch : Nat) (op : Bool) (ho : op = false) : Met l y_Pr_abort w_Pr_abort ({ frames := 1, cells := 0, slots := 0, locals := 20 } : Room) (zPre (dC, dI) vwCl (zT cT) [.ref h0] ([(h0, zoPr pL pT pD pB pS so pR), (pT, zoTx xK xR ch op)]) sz) (zQ (dC, dI) vwCl (S := Unit) (fun zu => True) (fun zu => some (.int (-1))) (fun zu => [(h0, zoPr pL pT pD pB pS so pR), (pT, zoTx xK xR ch op)]) (va_A ([(h0, zoPr pL pT pD pB pS so pR), (pT, zoTx xK xR ch op)]) sz)) 0 0 (va_A ([(h0, zoPr pL pT pD pB pS so pR), (pT, zoTx xK xR ch op)]) sz) := by
  refine Met.ofW (cc := b_Pr_abort) (maxL := 2) (ret := (some .int)) (by decide) rfl ?_
  intro p e s m args below meth c s₁ B hml hv
  obtain ⟨rfl, hsz, hP, hK, hD0, hE⟩ := hv
  have hx := B.exec
  have hb := B.bytes
  have hr := B.returns
  have hts := fun w h => atoms_spec (ws := w_Pr_abort) B.pre w (List.mem_cons_of_mem _ h)
  have hown : s.vm.findClass R_Pr = some m.cls := findClass_of_methodNamed B.named
  have hlocks := B.notSynchronized
  subst hsz
  have hD := hD0.self (sz := s.heap.size)
  generalize hAe : va_A ([(h0, zoPr pL pT pD pB pS so pR), (pT, zoTx xK xR ch op)]) s.heap.size = A at hD ⊢
  have hA : ∀ q : Nat, s.heap.size ≤ q → A q := fun q h => by rw [← hAe]; exact Or.inr h
  have hS : va_S A s.heap s.heap [] := va_S.rf
  have hl := lv_entry ([.ref h0]) (n := 2) (Nat.le_of_ble_eq_true rfl)
  rw [lg_entry_eq]
  generalize (lg_sl ([.ref h0]) ++ List.replicate (2 - (lg_sl ([.ref h0])).length) Slot.unset).toArray = ls at hl ⊢
  have hl : lv_has ls 2 [(0, .ref h0)] := hl
  refine lv_aload_n hx hb d_Pr_abort_0 rfl (lv_at hl 0 rfl) ?_
  refine va_get (D := (dC, dI)) (ci := 0) (v := .ref pT) (C := R_Pr) (T := F_Pr) (N := 7) hx hb hts i_Pr hown hK hP 0 rfl rfl 1 (by decide) (hts _ wd_153) (fun _ h9 => h9) rfl d_Pr_abort_1 ?_
  refine zw_R (r := .int (zb op)) (va_runV (As := []) (rest := []) ⟨hx, hb, hml, hown, hts⟩ (c_Tx_isOpen l dC dI cT pT xK xR ch op) (cwV 0 hts (zgV wd_178 wd_179 wd_180 wd_2 wd_181) rfl rfl rfl (by decide +kernel) ⟨Nat.le_of_ble_eq_true rfl, Nat.le_of_ble_eq_true rfl⟩) ⟨zPreR_blind, va_recv hK hP (ci := 2) (q0 := 1) rfl rfl, zp_R hK hE (zSub (X := [(h0, zoPr pL pT pD pB pS so pR), (pT, zoTx xK xR ch op)]) (pl := []) hP [1] rfl)⟩ rfl rfl hl.1 rfl (lv_room (Nat.le_of_ble_eq_true rfl)) d_Pr_abort_4 ⟨Nat.le_of_ble_eq_true rfl, Nat.le_of_ble_eq_true rfl⟩) ?_
  refine zb_if_ne (tgt := 12) hx hb d_Pr_abort_7 (by decide) (fun c_7 => absurd c_7 (by rw [ho]; decide)) (fun c_7 => ?_)
  refine lv_iconst (v := (-1)) hx hb d_Pr_abort_10 (by decide) ?_
  have hP9 := hP.sub (ws' := [(h0, zoPr pL pT pD pB pS so pR), (pT, zoTx xK xR ch op)]) [0, 1] rfl
  have hD9 := hD.sub (ws' := [(h0, zoPr pL pT pD pB pS so pR), (pT, zoTx xK xR ch op)]) [0, 1] (by decide) rfl
  exact W.iret hx hb hr (fun t ht hW => ⟨⟨(), trivial, rfl, by rw [ht]; exact hP9, hD9⟩, hS.F ht⟩) hS.2.2 d_Pr_abort_11
set_option maxHeartbeats 4000000 in
set_option maxRecDepth 100000 in
theorem c_Pr_abort_ok (l : Launch) (dC : Nat → ClassId) (dI : Nat → Nat → Nat) (cT : Nat → ClassId) (sz : Nat) (h0 : Nat) (pL : Nat) (pT : Nat) (pD : Nat) (pB : Nat) (pS : Nat) (pR : Nat) (so : Bool) (xK : Nat) (xR : Nat) (ch : Nat) (op : Bool) (lS : Nat) (aK : Nat) (aC : Nat) (aT : Nat) (aP : Nat) (lL : Nat) (lC : Nat) (lA : Nat) (lP : Nat) (tk : Nat → Nat) (tr : Nat → Int64) (ks : Nat → Int32) (cs : Nat → Int64) (tb : Nat → Int64) (pn : Nat → Nat) (ho : op = true) (hc : ch ≤ 4) (hL : lL + ch + 1 ≤ 800) (htk : ∀ j, j < ch → tk j < 32) : Met l y_Pr_abort w_Pr_abort ({ frames := 3, cells := 0, slots := 0, locals := 68 } : Room) (zPre (dC, dI) vwCl (zT cT) [.ref h0] ([(h0, zoPr pL pT pD pB pS so pR), (pT, zoTx xK xR ch op), (xK, zaN (cT 0) 4 tk), (xR, zaJ (cT 1) 4 tr), (pL, zoLg lS aK aC aT aP lL lC lA lP), (aK, zaI (cT 0) 801 ks), (aC, zaJ (cT 1) 801 cs), (aT, zaJ (cT 1) 32 tb), (aP, zaN (cT 0) 8 pn)]) sz) (zQ (dC, dI) vwCl (S := Unit) (fun zu => True) (fun zu => some (.int (nI ch))) (fun zu => [(h0, zoPr pL pT pD pB pS so pR), (pT, zoTx xK xR 0 false), (xK, zaN (cT 0) 4 tk), (xR, zaJ (cT 1) 4 tr), (pL, zoLg lS aK aC aT aP (zuL lL ch) lC lA lP), (aK, zaI (cT 0) 801 (zuKe ks tk lL ch)), (aC, zaJ (cT 1) 801 (zuCe cs tr lL ch)), (aT, zaJ (cT 1) 32 (zuT tb tk tr ch ch)), (aP, zaN (cT 0) 8 (zuP pn tk lL ch ch))]) (va_A ([(h0, zoPr pL pT pD pB pS so pR), (pT, zoTx xK xR ch op), (xK, zaN (cT 0) 4 tk), (xR, zaJ (cT 1) 4 tr), (pL, zoLg lS aK aC aT aP lL lC lA lP), (aK, zaI (cT 0) 801 ks), (aC, zaJ (cT 1) 801 cs), (aT, zaJ (cT 1) 32 tb), (aP, zaN (cT 0) 8 pn)]) sz)) 0 0 (va_A ([(h0, zoPr pL pT pD pB pS so pR), (pT, zoTx xK xR ch op), (xK, zaN (cT 0) 4 tk), (xR, zaJ (cT 1) 4 tr), (pL, zoLg lS aK aC aT aP lL lC lA lP), (aK, zaI (cT 0) 801 ks), (aC, zaJ (cT 1) 801 cs), (aT, zaJ (cT 1) 32 tb), (aP, zaN (cT 0) 8 pn)]) sz) := by
  refine Met.ofW (cc := b_Pr_abort) (maxL := 2) (ret := (some .int)) (by decide) rfl ?_
  intro p e s m args below meth c s₁ B hml hv
  obtain ⟨rfl, hsz, hP, hK, hD0, hE⟩ := hv
  have hx := B.exec
  have hb := B.bytes
  have hr := B.returns
  have hts := fun w h => atoms_spec (ws := w_Pr_abort) B.pre w (List.mem_cons_of_mem _ h)
  have hown : s.vm.findClass R_Pr = some m.cls := findClass_of_methodNamed B.named
  have hlocks := B.notSynchronized
  subst hsz
  have hD := hD0.self (sz := s.heap.size)
  generalize hAe : va_A ([(h0, zoPr pL pT pD pB pS so pR), (pT, zoTx xK xR ch op), (xK, zaN (cT 0) 4 tk), (xR, zaJ (cT 1) 4 tr), (pL, zoLg lS aK aC aT aP lL lC lA lP), (aK, zaI (cT 0) 801 ks), (aC, zaJ (cT 1) 801 cs), (aT, zaJ (cT 1) 32 tb), (aP, zaN (cT 0) 8 pn)]) s.heap.size = A at hD ⊢
  have hA : ∀ q : Nat, s.heap.size ≤ q → A q := fun q h => by rw [← hAe]; exact Or.inr h
  have hS : va_S A s.heap s.heap [] := va_S.rf
  have hl := lv_entry ([.ref h0]) (n := 2) (Nat.le_of_ble_eq_true rfl)
  rw [lg_entry_eq]
  generalize (lg_sl ([.ref h0]) ++ List.replicate (2 - (lg_sl ([.ref h0])).length) Slot.unset).toArray = ls at hl ⊢
  have hl : lv_has ls 2 [(0, .ref h0)] := hl
  refine lv_aload_n hx hb d_Pr_abort_0 rfl (lv_at hl 0 rfl) ?_
  refine va_get (D := (dC, dI)) (ci := 0) (v := .ref pT) (C := R_Pr) (T := F_Pr) (N := 7) hx hb hts i_Pr hown hK hP 0 rfl rfl 1 (by decide) (hts _ wd_153) (fun _ h9 => h9) rfl d_Pr_abort_1 ?_
  refine zw_R (r := .int (zb op)) (va_runV (As := []) (rest := []) ⟨hx, hb, hml, hown, hts⟩ (c_Tx_isOpen l dC dI cT pT xK xR ch op) (cwV 0 hts (zgV wd_178 wd_179 wd_180 wd_2 wd_181) rfl rfl rfl (by decide +kernel) ⟨Nat.le_of_ble_eq_true rfl, Nat.le_of_ble_eq_true rfl⟩) ⟨zPreR_blind, va_recv hK hP (ci := 2) (q0 := 1) rfl rfl, zp_R hK hE (zSub (X := [(h0, zoPr pL pT pD pB pS so pR), (pT, zoTx xK xR ch op), (xK, zaN (cT 0) 4 tk), (xR, zaJ (cT 1) 4 tr), (pL, zoLg lS aK aC aT aP lL lC lA lP), (aK, zaI (cT 0) 801 ks), (aC, zaJ (cT 1) 801 cs), (aT, zaJ (cT 1) 32 tb), (aP, zaN (cT 0) 8 pn)]) (pl := []) hP [1] rfl)⟩ rfl rfl hl.1 rfl (lv_room (Nat.le_of_ble_eq_true rfl)) d_Pr_abort_4 ⟨Nat.le_of_ble_eq_true rfl, Nat.le_of_ble_eq_true rfl⟩) ?_
  refine zb_if_ne (tgt := 12) hx hb d_Pr_abort_7 (by decide) (fun c_7 => ?_) (fun c_7 => absurd c_7 (by rw [ho]; decide))
  refine lv_aload_n hx hb d_Pr_abort_12 rfl (lv_at hl 0 rfl) ?_
  refine va_get (D := (dC, dI)) (ci := 0) (v := .ref pT) (C := R_Pr) (T := F_Pr) (N := 7) hx hb hts i_Pr hown hK hP 0 rfl rfl 1 (by decide) (hts _ wd_153) (fun _ h9 => h9) rfl d_Pr_abort_13 ?_
  refine zw_R (r := .int (nI ch)) (va_runV (As := []) (rest := []) ⟨hx, hb, hml, hown, hts⟩ (c_Tx_changes l dC dI cT pT xK xR ch op) (cwV 0 hts (zgV wd_197 wd_198 wd_199 wd_2 wd_200) rfl rfl rfl (by decide +kernel) ⟨Nat.le_of_ble_eq_true rfl, Nat.le_of_ble_eq_true rfl⟩) ⟨zPreR_blind, va_recv hK hP (ci := 2) (q0 := 1) rfl rfl, zp_R hK hE (zSub (X := [(h0, zoPr pL pT pD pB pS so pR), (pT, zoTx xK xR ch op), (xK, zaN (cT 0) 4 tk), (xR, zaJ (cT 1) 4 tr), (pL, zoLg lS aK aC aT aP lL lC lA lP), (aK, zaI (cT 0) 801 ks), (aC, zaJ (cT 1) 801 cs), (aT, zaJ (cT 1) 32 tb), (aP, zaN (cT 0) 8 pn)]) (pl := []) hP [1] rfl)⟩ rfl rfl hl.1 rfl (lv_room (Nat.le_of_ble_eq_true rfl)) d_Pr_abort_16 ⟨Nat.le_of_ble_eq_true rfl, Nat.le_of_ble_eq_true rfl⟩) ?_
  refine lv_istore_n (lv' := [(1, .int (nI ch)), (0, .ref h0)]) hx hb d_Pr_abort_19 rfl hl (by decide) rfl (fun ls hl => ?_)
  refine lv_aload_n hx hb d_Pr_abort_20 rfl (lv_at hl 1 rfl) ?_
  refine va_get (D := (dC, dI)) (ci := 0) (v := .ref pT) (C := R_Pr) (T := F_Pr) (N := 7) hx hb hts i_Pr hown hK hP 0 rfl rfl 1 (by decide) (hts _ wd_153) (fun _ h9 => h9) rfl d_Pr_abort_21 ?_
  refine lv_aload_n hx hb d_Pr_abort_24 rfl (lv_at hl 1 rfl) ?_
  refine va_get (D := (dC, dI)) (ci := 0) (v := .ref pL) (C := R_Pr) (T := F_Pr) (N := 7) hx hb hts i_Pr hown hK hP 0 rfl rfl 0 (by decide) (hts _ wd_152) (fun _ h9 => h9) rfl d_Pr_abort_25 ?_
  refine zw_Q (X := [(h0, zoPr pL pT pD pB pS so pR), (pT, zoTx xK xR ch op), (xK, zaN (cT 0) 4 tk), (xR, zaJ (cT 1) 4 tr), (pL, zoLg lS aK aC aT aP lL lC lA lP), (aK, zaI (cT 0) 801 ks), (aC, zaJ (cT 1) 801 cs), (aT, zaJ (cT 1) 32 tb), (aP, zaN (cT 0) 8 pn)]) (pl := []) (va_runV (As := [.ref pL]) (rest := []) ⟨hx, hb, hml, hown, hts⟩ (c_Tx_undoIn l dC dI cT s.heap.size pT xK xR ch op pL lS aK aC aT aP lL lC lA lP tk tr ks cs tb pn (by first | omega | assumption) (by first | omega | assumption) (by first | omega | assumption)) (cwV 1 hts (zgV wd_239 wd_240 wd_241 wd_2 wd_242) rfl rfl rfl (by decide +kernel) ⟨Nat.le_of_ble_eq_true rfl, Nat.le_of_ble_eq_true rfl⟩) ⟨zPre_blind, va_recv hK hP (ci := 2) (q0 := 1) rfl rfl, zp_Q (X := [(h0, zoPr pL pT pD pB pS so pR), (pT, zoTx xK xR ch op), (xK, zaN (cT 0) 4 tk), (xR, zaJ (cT 1) 4 tr), (pL, zoLg lS aK aC aT aP lL lC lA lP), (aK, zaI (cT 0) 801 ks), (aC, zaJ (cT 1) 801 cs), (aT, zaJ (cT 1) 32 tb), (aP, zaN (cT 0) 8 pn)]) (pl := []) hK hE hP hD [1, 2, 3, 4, 5, 6, 7, 8] (by decide) rfl⟩ rfl rfl hl.1 rfl (lv_room (Nat.le_of_ble_eq_true rfl)) d_Pr_abort_28 ⟨Nat.le_of_ble_eq_true rfl, Nat.le_of_ble_eq_true rfl⟩) hP hD hS hA [1, 2, 3, 4, 5, 6, 7, 8] [0] rfl (wr := [(h0, zoPr pL pT pD pB pS so pR)]) rfl (by decide) (by decide) (fun zu => []) (fun _ => rfl) (fun zu H locs hφ hP hD hS => ?_)
  have hP : va_P (dC, dI) vwCl ([(h0, zoPr pL pT pD pB pS so pR), (pT, zoTx xK xR 0 false), (xK, zaN (cT 0) 4 tk), (xR, zaJ (cT 1) 4 tr), (pL, zoLg lS aK aC aT aP (zuL lL ch) lC lA lP), (aK, zaI (cT 0) 801 (zuKe ks tk lL ch)), (aC, zaJ (cT 1) 801 (zuCe cs tr lL ch)), (aT, zaJ (cT 1) 32 (zuT tb tk tr ch ch)), (aP, zaN (cT 0) 8 (zuP pn tk lL ch ch))]) H := hP
  have hD : va_D A ([(h0, zoPr pL pT pD pB pS so pR), (pT, zoTx xK xR 0 false), (xK, zaN (cT 0) 4 tk), (xR, zaJ (cT 1) 4 tr), (pL, zoLg lS aK aC aT aP (zuL lL ch) lC lA lP), (aK, zaI (cT 0) 801 (zuKe ks tk lL ch)), (aC, zaJ (cT 1) 801 (zuCe cs tr lL ch)), (aT, zaJ (cT 1) 32 (zuT tb tk tr ch ch)), (aP, zaN (cT 0) 8 (zuP pn tk lL ch ch))]) := hD
  refine lv_iload_n hx hb d_Pr_abort_31 rfl (lv_at hl 0 rfl) ?_
  have hP9 := hP.sub (ws' := [(h0, zoPr pL pT pD pB pS so pR), (pT, zoTx xK xR 0 false), (xK, zaN (cT 0) 4 tk), (xR, zaJ (cT 1) 4 tr), (pL, zoLg lS aK aC aT aP (zuL lL ch) lC lA lP), (aK, zaI (cT 0) 801 (zuKe ks tk lL ch)), (aC, zaJ (cT 1) 801 (zuCe cs tr lL ch)), (aT, zaJ (cT 1) 32 (zuT tb tk tr ch ch)), (aP, zaN (cT 0) 8 (zuP pn tk lL ch ch))]) [0, 1, 2, 3, 4, 5, 6, 7, 8] rfl
  have hD9 := hD.sub (ws' := [(h0, zoPr pL pT pD pB pS so pR), (pT, zoTx xK xR 0 false), (xK, zaN (cT 0) 4 tk), (xR, zaJ (cT 1) 4 tr), (pL, zoLg lS aK aC aT aP (zuL lL ch) lC lA lP), (aK, zaI (cT 0) 801 (zuKe ks tk lL ch)), (aC, zaJ (cT 1) 801 (zuCe cs tr lL ch)), (aT, zaJ (cT 1) 32 (zuT tb tk tr ch ch)), (aP, zaN (cT 0) 8 (zuP pn tk lL ch ch))]) [0, 1, 2, 3, 4, 5, 6, 7, 8] (by decide) rfl
  exact W.iret hx hb hr (fun t ht hW => ⟨⟨(), trivial, rfl, by rw [ht]; exact hP9, hD9⟩, hS.F ht⟩) hS.2.2 d_Pr_abort_32
set_option maxHeartbeats 4000000 in
set_option maxRecDepth 100000 in
theorem c_Pr_get (l : Launch) (dC : Nat → ClassId) (dI : Nat → Nat → Nat) (cT : Nat → ClassId) (h0 : Nat) (pL : Nat) (pT : Nat) (pD : Nat) (pB : Nat) (pS : Nat) (pR : Nat) (so : Bool) (lS : Nat) (aK : Nat) (aC : Nat) (aT : Nat) (aP : Nat) (lL : Nat) (lC : Nat) (lA : Nat) (lP : Nat) (k : Int32) (tb : Nat → Int64) : Met l y_Pr_get w_Pr_get ({ frames := 1, cells := 0, slots := 0, locals := 21 } : Room) (zPreR (dC, dI) vwCl (zT cT) [.ref h0, .int k] ([(h0, zoPr pL pT pD pB pS so pR), (pL, zoLg lS aK aC aT aP lL lC lA lP), (aT, zaJ (cT 1) 32 tb)])) (k2_QcV (.long (if isIn k 32 = true then tb (kN k) else (-1000000000000)))) 0 0 (fun _ => False) := by
  refine Met.ofW (cc := b_Pr_get) (maxL := 2) (ret := (some .long)) (by decide) rfl ?_
  intro p e s m args below meth c s₁ B hml hv
  obtain ⟨rfl, hP, hK, hE⟩ := hv
  have hx := B.exec
  have hb := B.bytes
  have hr := B.returns
  have hts := fun w h => atoms_spec (ws := w_Pr_get) B.pre w (List.mem_cons_of_mem _ h)
  have hown : s.vm.findClass R_Pr = some m.cls := findClass_of_methodNamed B.named
  have hlocks := B.notSynchronized
  have hl := lv_entry ([.ref h0, .int k]) (n := 2) (Nat.le_of_ble_eq_true rfl)
  rw [lg_entry_eq]
  generalize (lg_sl ([.ref h0, .int k]) ++ List.replicate (2 - (lg_sl ([.ref h0, .int k])).length) Slot.unset).toArray = ls at hl ⊢
  have hl : lv_has ls 2 [(0, .ref h0), (1, .int k)] := hl
  refine lv_iload_n hx hb d_Pr_get_0 rfl (lv_at hl 1 rfl) ?_
  refine zw_R (r := .int (zb (isIn k 32))) (va_runS (As := [.int k]) (rest := []) ⟨hx, hb, hml, hown, hts⟩ (c_Pr_isKey l dC dI cT k) (va_cwS 1 hts (zgS wd_190 wd_191 wd_1 wd_192) rfl rfl rfl (by decide +kernel) ⟨Nat.le_of_ble_eq_true rfl, Nat.le_of_ble_eq_true rfl⟩) ⟨zPreR_blind, zp_R hK hE (zSub (X := [(h0, zoPr pL pT pD pB pS so pR), (pL, zoLg lS aK aC aT aP lL lC lA lP), (aT, zaJ (cT 1) 32 tb)]) (pl := []) hP [] rfl)⟩ rfl rfl hl.1 rfl (lv_room (Nat.le_of_ble_eq_true rfl)) d_Pr_get_1 ⟨Nat.le_of_ble_eq_true rfl, Nat.le_of_ble_eq_true rfl⟩) ?_
  refine zb_if_eq (tgt := 18) hx hb d_Pr_get_4 (by decide) (fun c_4 => ?_) (fun c_4 => ?_)
  · refine lv_ldc2 (v := (-1000000000000)) hx hb hown (hts _ wd_253) d_Pr_get_18 ?_
    exact W.lret hx hb hr (fun t ht hW => ⟨by rw [if_neg (by rw [c_4]; decide)], ht⟩) (fun q h => by cases h) d_Pr_get_21
  · obtain ⟨hk1, hk2⟩ := isIn_of (by decide) c_4
    have hl : lv_has ls 2 [(0, .ref h0), (1, .int (nI (kN k)))] := by rw [← hk1]; exact hl
    refine lv_aload_n hx hb d_Pr_get_7 rfl (lv_at hl 0 rfl) ?_
    refine va_get (D := (dC, dI)) (ci := 0) (v := .ref pL) (C := R_Pr) (T := F_Pr) (N := 7) hx hb hts i_Pr hown hK hP 0 rfl rfl 0 (by decide) (hts _ wd_152) (fun _ h9 => h9) rfl d_Pr_get_8 ?_
    refine lv_iload_n hx hb d_Pr_get_11 rfl (lv_at hl 1 rfl) ?_
    refine zw_R (r := .long (tb (kN k))) (va_runV (As := [.int (nI (kN k))]) (rest := []) ⟨hx, hb, hml, hown, hts⟩ (c_Lg_contentOf l dC dI cT pL lS aK aC aT aP lL lC lA lP (kN k) tb (by first | omega | assumption)) (cwV 1 hts (zgV wd_206 wd_207 wd_208 wd_4 wd_209) rfl rfl rfl (by decide +kernel) ⟨Nat.le_of_ble_eq_true rfl, Nat.le_of_ble_eq_true rfl⟩) ⟨zPreR_blind, va_recv hK hP (ci := 1) (q0 := 1) rfl rfl, zp_R hK hE (zSub (X := [(h0, zoPr pL pT pD pB pS so pR), (pL, zoLg lS aK aC aT aP lL lC lA lP), (aT, zaJ (cT 1) 32 tb)]) (pl := []) hP [1, 2] rfl)⟩ rfl rfl hl.1 rfl (lv_room (Nat.le_of_ble_eq_true rfl)) d_Pr_get_12 ⟨Nat.le_of_ble_eq_true rfl, Nat.le_of_ble_eq_true rfl⟩) ?_
    refine lv_goto (tgt := 21) hx hb d_Pr_get_15 (by decide) ?_
    exact W.lret hx hb hr (fun t ht hW => ⟨by rw [if_pos c_4], ht⟩) (fun q h => by cases h) d_Pr_get_21
set_option maxHeartbeats 4000000 in
set_option maxRecDepth 100000 in
theorem c_Pr_write_ref (l : Launch) (dC : Nat → ClassId) (dI : Nat → Nat → Nat) (cT : Nat → ClassId) (sz : Nat) (h0 : Nat) (pL : Nat) (pT : Nat) (pD : Nat) (pB : Nat) (pS : Nat) (pR : Nat) (so : Bool) (k : Int32) (hno : isIn k 8 = false) : Met l y_Pr_write w_Pr_write ({ frames := 1, cells := 0, slots := 0, locals := 20 } : Room) (zPre (dC, dI) vwCl (zT cT) [.ref h0, .int k] ([(h0, zoPr pL pT pD pB pS so pR)]) sz) (zQ (dC, dI) vwCl (S := Unit) (fun zu => True) (fun zu => some (.int (-1))) (fun zu => [(h0, zoPr pL pT pD pB pS so pR)]) (va_A ([(h0, zoPr pL pT pD pB pS so pR)]) sz)) 0 0 (va_A ([(h0, zoPr pL pT pD pB pS so pR)]) sz) := by
  refine Met.ofW (cc := b_Pr_write) (maxL := 3) (ret := (some .int)) (by decide) rfl ?_
  intro p e s m args below meth c s₁ B hml hv
  obtain ⟨rfl, hsz, hP, hK, hD0, hE⟩ := hv
  have hx := B.exec
  have hb := B.bytes
  have hr := B.returns
  have hts := fun w h => atoms_spec (ws := w_Pr_write) B.pre w (List.mem_cons_of_mem _ h)
  have hown : s.vm.findClass R_Pr = some m.cls := findClass_of_methodNamed B.named
  have hlocks := B.notSynchronized
  subst hsz
  have hD := hD0.self (sz := s.heap.size)
  generalize hAe : va_A ([(h0, zoPr pL pT pD pB pS so pR)]) s.heap.size = A at hD ⊢
  have hA : ∀ q : Nat, s.heap.size ≤ q → A q := fun q h => by rw [← hAe]; exact Or.inr h
  have hS : va_S A s.heap s.heap [] := va_S.rf
  have hl := lv_entry ([.ref h0, .int k]) (n := 3) (Nat.le_of_ble_eq_true rfl)
  rw [lg_entry_eq]
  generalize (lg_sl ([.ref h0, .int k]) ++ List.replicate (3 - (lg_sl ([.ref h0, .int k])).length) Slot.unset).toArray = ls at hl ⊢
  have hl : lv_has ls 3 [(0, .ref h0), (1, .int k)] := hl
  refine lv_iload_n hx hb d_Pr_write_0 rfl (lv_at hl 1 rfl) ?_
  refine zw_R (r := .int (zb (isIn k 8))) (va_runS (As := [.int k]) (rest := []) ⟨hx, hb, hml, hown, hts⟩ (c_Pr_isPage l dC dI cT k) (va_cwS 1 hts (zgS wd_258 wd_259 wd_1 wd_260) rfl rfl rfl (by decide +kernel) ⟨Nat.le_of_ble_eq_true rfl, Nat.le_of_ble_eq_true rfl⟩) ⟨zPreR_blind, zp_R hK hE (zSub (X := [(h0, zoPr pL pT pD pB pS so pR)]) (pl := []) hP [] rfl)⟩ rfl rfl hl.1 rfl (lv_room (Nat.le_of_ble_eq_true rfl)) d_Pr_write_1 ⟨Nat.le_of_ble_eq_true rfl, Nat.le_of_ble_eq_true rfl⟩) ?_
  refine zb_if_ne (tgt := 9) hx hb d_Pr_write_4 (by decide) (fun c_4 => absurd c_4 (by rw [hno]; decide)) (fun c_4 => ?_)
  refine lv_iconst (v := (-1)) hx hb d_Pr_write_7 (by decide) ?_
  have hP9 := hP.sub (ws' := [(h0, zoPr pL pT pD pB pS so pR)]) [0] rfl
  have hD9 := hD.sub (ws' := [(h0, zoPr pL pT pD pB pS so pR)]) [0] (by decide) rfl
  exact W.iret hx hb hr (fun t ht hW => ⟨⟨(), trivial, rfl, by rw [ht]; exact hP9, hD9⟩, hS.F ht⟩) hS.2.2 d_Pr_write_8
set_option maxHeartbeats 4000000 in
set_option maxRecDepth 100000 in
theorem c_Pr_write_ok (l : Launch) (dC : Nat → ClassId) (dI : Nat → Nat → Nat) (cT : Nat → ClassId) (sz : Nat) (h0 : Nat) (pL : Nat) (pT : Nat) (pD : Nat) (pB : Nat) (pS : Nat) (pR : Nat) (so : Bool) (lS : Nat) (aK : Nat) (aC : Nat) (aT : Nat) (aP : Nat) (lL : Nat) (lC : Nat) (lA : Nat) (lP : Nat) (dA : Nat) (dB : Nat) (pg : Nat) (pn : Nat → Nat) (dn : Nat → Nat) (dt : Nat → Bool) (hp : pg < 8) : Met l y_Pr_write w_Pr_write ({ frames := 1, cells := 0, slots := 0, locals := 22 } : Room) (zPre (dC, dI) vwCl (zT cT) [.ref h0, .int (nI pg)] ([(h0, zoPr pL pT pD pB pS so pR), (pL, zoLg lS aK aC aT aP lL lC lA lP), (aP, zaN (cT 0) 8 pn), (pD, zoDk dA dB), (dA, zaN (cT 0) 8 dn), (dB, zaZ (cT 2) 8 dt)]) sz) (zQ (dC, dI) vwCl (S := Unit) (fun zu => True) (fun zu => some (.int (nI (pn pg)))) (fun zu => [(h0, zoPr pL pT pD pB pS so pR), (pL, zoLg lS aK aC aT aP lL lC lA lP), (aP, zaN (cT 0) 8 pn), (pD, zoDk dA dB), (dA, zaN (cT 0) 8 (va_up dn pg (pn pg))), (dB, zaZ (cT 2) 8 (va_up dt pg false))]) (va_A ([(h0, zoPr pL pT pD pB pS so pR), (pL, zoLg lS aK aC aT aP lL lC lA lP), (aP, zaN (cT 0) 8 pn), (pD, zoDk dA dB), (dA, zaN (cT 0) 8 dn), (dB, zaZ (cT 2) 8 dt)]) sz)) 0 0 (va_A ([(h0, zoPr pL pT pD pB pS so pR), (pL, zoLg lS aK aC aT aP lL lC lA lP), (aP, zaN (cT 0) 8 pn), (pD, zoDk dA dB), (dA, zaN (cT 0) 8 dn), (dB, zaZ (cT 2) 8 dt)]) sz) := by
  refine Met.ofW (cc := b_Pr_write) (maxL := 3) (ret := (some .int)) (by decide) rfl ?_
  intro p e s m args below meth c s₁ B hml hv
  obtain ⟨rfl, hsz, hP, hK, hD0, hE⟩ := hv
  have hx := B.exec
  have hb := B.bytes
  have hr := B.returns
  have hts := fun w h => atoms_spec (ws := w_Pr_write) B.pre w (List.mem_cons_of_mem _ h)
  have hown : s.vm.findClass R_Pr = some m.cls := findClass_of_methodNamed B.named
  have hlocks := B.notSynchronized
  subst hsz
  have hD := hD0.self (sz := s.heap.size)
  generalize hAe : va_A ([(h0, zoPr pL pT pD pB pS so pR), (pL, zoLg lS aK aC aT aP lL lC lA lP), (aP, zaN (cT 0) 8 pn), (pD, zoDk dA dB), (dA, zaN (cT 0) 8 dn), (dB, zaZ (cT 2) 8 dt)]) s.heap.size = A at hD ⊢
  have hA : ∀ q : Nat, s.heap.size ≤ q → A q := fun q h => by rw [← hAe]; exact Or.inr h
  have hS : va_S A s.heap s.heap [] := va_S.rf
  have hl := lv_entry ([.ref h0, .int (nI pg)]) (n := 3) (Nat.le_of_ble_eq_true rfl)
  rw [lg_entry_eq]
  generalize (lg_sl ([.ref h0, .int (nI pg)]) ++ List.replicate (3 - (lg_sl ([.ref h0, .int (nI pg)])).length) Slot.unset).toArray = ls at hl ⊢
  have hl : lv_has ls 3 [(0, .ref h0), (1, .int (nI pg))] := hl
  refine lv_iload_n hx hb d_Pr_write_0 rfl (lv_at hl 1 rfl) ?_
  refine zw_R (r := .int (zb (isIn (nI pg) 8))) (va_runS (As := [.int (nI pg)]) (rest := []) ⟨hx, hb, hml, hown, hts⟩ (c_Pr_isPage l dC dI cT (nI pg)) (va_cwS 1 hts (zgS wd_258 wd_259 wd_1 wd_260) rfl rfl rfl (by decide +kernel) ⟨Nat.le_of_ble_eq_true rfl, Nat.le_of_ble_eq_true rfl⟩) ⟨zPreR_blind, zp_R hK hE (zSub (X := [(h0, zoPr pL pT pD pB pS so pR), (pL, zoLg lS aK aC aT aP lL lC lA lP), (aP, zaN (cT 0) 8 pn), (pD, zoDk dA dB), (dA, zaN (cT 0) 8 dn), (dB, zaZ (cT 2) 8 dt)]) (pl := []) hP [] rfl)⟩ rfl rfl hl.1 rfl (lv_room (Nat.le_of_ble_eq_true rfl)) d_Pr_write_1 ⟨Nat.le_of_ble_eq_true rfl, Nat.le_of_ble_eq_true rfl⟩) ?_
  refine zb_if_ne (tgt := 9) hx hb d_Pr_write_4 (by decide) (fun c_4 => ?_) (fun c_4 => absurd c_4 (by rw [isIn_nI (by decide) hp]; decide))
  refine lv_aload_n hx hb d_Pr_write_9 rfl (lv_at hl 0 rfl) ?_
  refine va_get (D := (dC, dI)) (ci := 0) (v := .ref pL) (C := R_Pr) (T := F_Pr) (N := 7) hx hb hts i_Pr hown hK hP 0 rfl rfl 0 (by decide) (hts _ wd_152) (fun _ h9 => h9) rfl d_Pr_write_10 ?_
  refine lv_iload_n hx hb d_Pr_write_13 rfl (lv_at hl 1 rfl) ?_
  refine zw_R (r := .int (nI (pn pg))) (va_runV (As := [.int (nI pg)]) (rest := []) ⟨hx, hb, hml, hown, hts⟩ (c_Lg_numberOfPage l dC dI cT pL lS aK aC aT aP lL lC lA lP pg pn (by first | omega | assumption)) (cwV 1 hts (zgV wd_261 wd_262 wd_263 wd_4 wd_264) rfl rfl rfl (by decide +kernel) ⟨Nat.le_of_ble_eq_true rfl, Nat.le_of_ble_eq_true rfl⟩) ⟨zPreR_blind, va_recv hK hP (ci := 1) (q0 := 1) rfl rfl, zp_R hK hE (zSub (X := [(h0, zoPr pL pT pD pB pS so pR), (pL, zoLg lS aK aC aT aP lL lC lA lP), (aP, zaN (cT 0) 8 pn), (pD, zoDk dA dB), (dA, zaN (cT 0) 8 dn), (dB, zaZ (cT 2) 8 dt)]) (pl := []) hP [1, 2] rfl)⟩ rfl rfl hl.1 rfl (lv_room (Nat.le_of_ble_eq_true rfl)) d_Pr_write_14 ⟨Nat.le_of_ble_eq_true rfl, Nat.le_of_ble_eq_true rfl⟩) ?_
  refine lv_istore_n (lv' := [(2, .int (nI (pn pg))), (0, .ref h0), (1, .int (nI pg))]) hx hb d_Pr_write_17 rfl hl (by decide) rfl (fun ls hl => ?_)
  refine lv_aload_n hx hb d_Pr_write_18 rfl (lv_at hl 1 rfl) ?_
  refine va_get (D := (dC, dI)) (ci := 0) (v := .ref pD) (C := R_Pr) (T := F_Pr) (N := 7) hx hb hts i_Pr hown hK hP 0 rfl rfl 2 (by decide) (hts _ wd_154) (fun _ h9 => h9) rfl d_Pr_write_19 ?_
  refine lv_iload_n hx hb d_Pr_write_22 rfl (lv_at hl 2 rfl) ?_
  refine lv_iload_n hx hb d_Pr_write_23 rfl (lv_at hl 0 rfl) ?_
  refine zw_Q (X := [(h0, zoPr pL pT pD pB pS so pR), (pL, zoLg lS aK aC aT aP lL lC lA lP), (aP, zaN (cT 0) 8 pn), (pD, zoDk dA dB), (dA, zaN (cT 0) 8 dn), (dB, zaZ (cT 2) 8 dt)]) (pl := []) (va_runV (As := [.int (nI pg), .int (nI (pn pg))]) (rest := []) ⟨hx, hb, hml, hown, hts⟩ (c_Dk_store l dC dI cT s.heap.size pD dA dB pg (pn pg) dn dt (by first | omega | assumption)) (cwV 2 hts (zgV wd_265 wd_266 wd_267 wd_3 wd_268) rfl rfl rfl (by decide +kernel) ⟨Nat.le_of_ble_eq_true rfl, Nat.le_of_ble_eq_true rfl⟩) ⟨zPre_blind, va_recv hK hP (ci := 3) (q0 := 3) rfl rfl, zp_Q (X := [(h0, zoPr pL pT pD pB pS so pR), (pL, zoLg lS aK aC aT aP lL lC lA lP), (aP, zaN (cT 0) 8 pn), (pD, zoDk dA dB), (dA, zaN (cT 0) 8 dn), (dB, zaZ (cT 2) 8 dt)]) (pl := []) hK hE hP hD [3, 4, 5] (by decide) rfl⟩ rfl rfl hl.1 rfl (lv_room (Nat.le_of_ble_eq_true rfl)) d_Pr_write_24 ⟨Nat.le_of_ble_eq_true rfl, Nat.le_of_ble_eq_true rfl⟩) hP hD hS hA [3, 4, 5] [0, 1, 2] rfl (wr := [(h0, zoPr pL pT pD pB pS so pR), (pL, zoLg lS aK aC aT aP lL lC lA lP), (aP, zaN (cT 0) 8 pn)]) rfl (by decide) (by decide) (fun zu => []) (fun _ => rfl) (fun zu H locs hφ hP hD hS => ?_)
  have hP : va_P (dC, dI) vwCl ([(h0, zoPr pL pT pD pB pS so pR), (pL, zoLg lS aK aC aT aP lL lC lA lP), (aP, zaN (cT 0) 8 pn), (pD, zoDk dA dB), (dA, zaN (cT 0) 8 (va_up dn pg (pn pg))), (dB, zaZ (cT 2) 8 (va_up dt pg false))]) H := hP
  have hD : va_D A ([(h0, zoPr pL pT pD pB pS so pR), (pL, zoLg lS aK aC aT aP lL lC lA lP), (aP, zaN (cT 0) 8 pn), (pD, zoDk dA dB), (dA, zaN (cT 0) 8 (va_up dn pg (pn pg))), (dB, zaZ (cT 2) 8 (va_up dt pg false))]) := hD
  refine lv_iload_n hx hb d_Pr_write_27 rfl (lv_at hl 0 rfl) ?_
  have hP9 := hP.sub (ws' := [(h0, zoPr pL pT pD pB pS so pR), (pL, zoLg lS aK aC aT aP lL lC lA lP), (aP, zaN (cT 0) 8 pn), (pD, zoDk dA dB), (dA, zaN (cT 0) 8 (va_up dn pg (pn pg))), (dB, zaZ (cT 2) 8 (va_up dt pg false))]) [0, 1, 2, 3, 4, 5] rfl
  have hD9 := hD.sub (ws' := [(h0, zoPr pL pT pD pB pS so pR), (pL, zoLg lS aK aC aT aP lL lC lA lP), (aP, zaN (cT 0) 8 pn), (pD, zoDk dA dB), (dA, zaN (cT 0) 8 (va_up dn pg (pn pg))), (dB, zaZ (cT 2) 8 (va_up dt pg false))]) [0, 1, 2, 3, 4, 5] (by decide) rfl
  exact W.iret hx hb hr (fun t ht hW => ⟨⟨(), trivial, rfl, by rw [ht]; exact hP9, hD9⟩, hS.F ht⟩) hS.2.2 d_Pr_write_28
set_option maxHeartbeats 4000000 in
set_option maxRecDepth 100000 in
theorem c_Pr_archive_no (l : Launch) (dC : Nat → ClassId) (dI : Nat → Nat → Nat) (cT : Nat → ClassId) (sz : Nat) (h0 : Nat) (pL : Nat) (pT : Nat) (pD : Nat) (pB : Nat) (pS : Nat) (pR : Nat) (so : Bool) (lS : Nat) (aK : Nat) (aC : Nat) (aT : Nat) (aP : Nat) (lL : Nat) (lC : Nat) (lA : Nat) (lP : Nat) (hm : (lA + 1) * lS < 2 ^ 31) (hL : lL ≤ 800) (hno : lL < (lA + 1) * lS) : Met l y_Pr_archive w_Pr_archive ({ frames := 1, cells := 0, slots := 0, locals := 20 } : Room) (zPre (dC, dI) vwCl (zT cT) [.ref h0] ([(h0, zoPr pL pT pD pB pS so pR), (pL, zoLg lS aK aC aT aP lL lC lA lP)]) sz) (zQ (dC, dI) vwCl (S := Unit) (fun zu => True) (fun zu => some (.int (-1))) (fun zu => [(h0, zoPr pL pT pD pB pS so pR), (pL, zoLg lS aK aC aT aP lL lC lA lP)]) (va_A ([(h0, zoPr pL pT pD pB pS so pR), (pL, zoLg lS aK aC aT aP lL lC lA lP)]) sz)) 0 0 (va_A ([(h0, zoPr pL pT pD pB pS so pR), (pL, zoLg lS aK aC aT aP lL lC lA lP)]) sz) := by
  refine Met.ofW (cc := b_Pr_archive) (maxL := 1) (ret := (some .int)) (by decide) rfl ?_
  intro p e s m args below meth c s₁ B hml hv
  obtain ⟨rfl, hsz, hP, hK, hD0, hE⟩ := hv
  have hx := B.exec
  have hb := B.bytes
  have hr := B.returns
  have hts := fun w h => atoms_spec (ws := w_Pr_archive) B.pre w (List.mem_cons_of_mem _ h)
  have hown : s.vm.findClass R_Pr = some m.cls := findClass_of_methodNamed B.named
  have hlocks := B.notSynchronized
  subst hsz
  have hD := hD0.self (sz := s.heap.size)
  generalize hAe : va_A ([(h0, zoPr pL pT pD pB pS so pR), (pL, zoLg lS aK aC aT aP lL lC lA lP)]) s.heap.size = A at hD ⊢
  have hA : ∀ q : Nat, s.heap.size ≤ q → A q := fun q h => by rw [← hAe]; exact Or.inr h
  have hS : va_S A s.heap s.heap [] := va_S.rf
  have hl := lv_entry ([.ref h0]) (n := 1) (Nat.le_of_ble_eq_true rfl)
  rw [lg_entry_eq]
  generalize (lg_sl ([.ref h0]) ++ List.replicate (1 - (lg_sl ([.ref h0])).length) Slot.unset).toArray = ls at hl ⊢
  have hl : lv_has ls 1 [(0, .ref h0)] := hl
  refine lv_aload_n hx hb d_Pr_archive_0 rfl (lv_at hl 0 rfl) ?_
  refine va_get (D := (dC, dI)) (ci := 0) (v := .ref pL) (C := R_Pr) (T := F_Pr) (N := 7) hx hb hts i_Pr hown hK hP 0 rfl rfl 0 (by decide) (hts _ wd_152) (fun _ h9 => h9) rfl d_Pr_archive_1 ?_
  refine zw_Q (X := [(h0, zoPr pL pT pD pB pS so pR), (pL, zoLg lS aK aC aT aP lL lC lA lP)]) (pl := []) (va_runV (As := []) (rest := []) ⟨hx, hb, hml, hown, hts⟩ (c_Lg_archiveOldest_no l dC dI cT s.heap.size pL lS aK aC aT aP lL lC lA lP (by first | omega | assumption) (by first | omega | assumption) (by first | omega | assumption)) (cwV 0 hts (zgV wd_273 wd_274 wd_275 wd_4 wd_276) rfl rfl rfl (by decide +kernel) ⟨Nat.le_of_ble_eq_true rfl, Nat.le_of_ble_eq_true rfl⟩) ⟨zPre_blind, va_recv hK hP (ci := 1) (q0 := 1) rfl rfl, zp_Q (X := [(h0, zoPr pL pT pD pB pS so pR), (pL, zoLg lS aK aC aT aP lL lC lA lP)]) (pl := []) hK hE hP hD [1] (by decide) rfl⟩ rfl rfl hl.1 rfl (lv_room (Nat.le_of_ble_eq_true rfl)) d_Pr_archive_4 ⟨Nat.le_of_ble_eq_true rfl, Nat.le_of_ble_eq_true rfl⟩) hP hD hS hA [1] [0] rfl (wr := [(h0, zoPr pL pT pD pB pS so pR)]) rfl (by decide) (by decide) (fun zu => [.int (-1)]) (fun _ => rfl) (fun zu H locs hφ hP hD hS => ?_)
  have hP : va_P (dC, dI) vwCl ([(h0, zoPr pL pT pD pB pS so pR), (pL, zoLg lS aK aC aT aP lL lC lA lP)]) H := hP
  have hD : va_D A ([(h0, zoPr pL pT pD pB pS so pR), (pL, zoLg lS aK aC aT aP lL lC lA lP)]) := hD
  have hP9 := hP.sub (ws' := [(h0, zoPr pL pT pD pB pS so pR), (pL, zoLg lS aK aC aT aP lL lC lA lP)]) [0, 1] rfl
  have hD9 := hD.sub (ws' := [(h0, zoPr pL pT pD pB pS so pR), (pL, zoLg lS aK aC aT aP lL lC lA lP)]) [0, 1] (by decide) rfl
  exact W.iret hx hb hr (fun t ht hW => ⟨⟨(), trivial, rfl, by rw [ht]; exact hP9, hD9⟩, hS.F ht⟩) hS.2.2 d_Pr_archive_7
set_option maxHeartbeats 4000000 in
set_option maxRecDepth 100000 in
theorem c_Pr_archive_yes (l : Launch) (dC : Nat → ClassId) (dI : Nat → Nat → Nat) (cT : Nat → ClassId) (sz : Nat) (h0 : Nat) (pL : Nat) (pT : Nat) (pD : Nat) (pB : Nat) (pS : Nat) (pR : Nat) (so : Bool) (lS : Nat) (aK : Nat) (aC : Nat) (aT : Nat) (aP : Nat) (lL : Nat) (lC : Nat) (lA : Nat) (lP : Nat) (hm : (lA + 1) * lS < 2 ^ 31) (hL : lL ≤ 800) (hyes : (lA + 1) * lS ≤ lL) (hA : lA < 2 ^ 30) : Met l y_Pr_archive w_Pr_archive ({ frames := 1, cells := 0, slots := 0, locals := 20 } : Room) (zPre (dC, dI) vwCl (zT cT) [.ref h0] ([(h0, zoPr pL pT pD pB pS so pR), (pL, zoLg lS aK aC aT aP lL lC lA lP)]) sz) (zQ (dC, dI) vwCl (S := Unit) (fun zu => True) (fun zu => some (.int (nI (lA + 1)))) (fun zu => [(h0, zoPr pL pT pD pB pS so pR), (pL, zoLg lS aK aC aT aP lL lC (lA + 1) lP)]) (va_A ([(h0, zoPr pL pT pD pB pS so pR), (pL, zoLg lS aK aC aT aP lL lC lA lP)]) sz)) 0 0 (va_A ([(h0, zoPr pL pT pD pB pS so pR), (pL, zoLg lS aK aC aT aP lL lC lA lP)]) sz) := by
  refine Met.ofW (cc := b_Pr_archive) (maxL := 1) (ret := (some .int)) (by decide) rfl ?_
  intro p e s m args below meth c s₁ B hml hv
  obtain ⟨rfl, hsz, hP, hK, hD0, hE⟩ := hv
  have hx := B.exec
  have hb := B.bytes
  have hr := B.returns
  have hts := fun w h => atoms_spec (ws := w_Pr_archive) B.pre w (List.mem_cons_of_mem _ h)
  have hown : s.vm.findClass R_Pr = some m.cls := findClass_of_methodNamed B.named
  have hlocks := B.notSynchronized
  subst hsz
  have hD := hD0.self (sz := s.heap.size)
  generalize hAe : va_A ([(h0, zoPr pL pT pD pB pS so pR), (pL, zoLg lS aK aC aT aP lL lC lA lP)]) s.heap.size = A at hD ⊢
  have hA : ∀ q : Nat, s.heap.size ≤ q → A q := fun q h => by rw [← hAe]; exact Or.inr h
  have hS : va_S A s.heap s.heap [] := va_S.rf
  have hl := lv_entry ([.ref h0]) (n := 1) (Nat.le_of_ble_eq_true rfl)
  rw [lg_entry_eq]
  generalize (lg_sl ([.ref h0]) ++ List.replicate (1 - (lg_sl ([.ref h0])).length) Slot.unset).toArray = ls at hl ⊢
  have hl : lv_has ls 1 [(0, .ref h0)] := hl
  refine lv_aload_n hx hb d_Pr_archive_0 rfl (lv_at hl 0 rfl) ?_
  refine va_get (D := (dC, dI)) (ci := 0) (v := .ref pL) (C := R_Pr) (T := F_Pr) (N := 7) hx hb hts i_Pr hown hK hP 0 rfl rfl 0 (by decide) (hts _ wd_152) (fun _ h9 => h9) rfl d_Pr_archive_1 ?_
  refine zw_Q (X := [(h0, zoPr pL pT pD pB pS so pR), (pL, zoLg lS aK aC aT aP lL lC lA lP)]) (pl := []) (va_runV (As := []) (rest := []) ⟨hx, hb, hml, hown, hts⟩ (c_Lg_archiveOldest_yes l dC dI cT s.heap.size pL lS aK aC aT aP lL lC lA lP (by first | omega | assumption) (by first | omega | assumption) (by first | omega | assumption) (by first | omega | assumption)) (cwV 0 hts (zgV wd_273 wd_274 wd_275 wd_4 wd_276) rfl rfl rfl (by decide +kernel) ⟨Nat.le_of_ble_eq_true rfl, Nat.le_of_ble_eq_true rfl⟩) ⟨zPre_blind, va_recv hK hP (ci := 1) (q0 := 1) rfl rfl, zp_Q (X := [(h0, zoPr pL pT pD pB pS so pR), (pL, zoLg lS aK aC aT aP lL lC lA lP)]) (pl := []) hK hE hP hD [1] (by decide) rfl⟩ rfl rfl hl.1 rfl (lv_room (Nat.le_of_ble_eq_true rfl)) d_Pr_archive_4 ⟨Nat.le_of_ble_eq_true rfl, Nat.le_of_ble_eq_true rfl⟩) hP hD hS hA [1] [0] rfl (wr := [(h0, zoPr pL pT pD pB pS so pR)]) rfl (by decide) (by decide) (fun zu => [.int (nI (lA + 1))]) (fun _ => rfl) (fun zu H locs hφ hP hD hS => ?_)
  have hP : va_P (dC, dI) vwCl ([(h0, zoPr pL pT pD pB pS so pR), (pL, zoLg lS aK aC aT aP lL lC (lA + 1) lP)]) H := hP
  have hD : va_D A ([(h0, zoPr pL pT pD pB pS so pR), (pL, zoLg lS aK aC aT aP lL lC (lA + 1) lP)]) := hD
  have hP9 := hP.sub (ws' := [(h0, zoPr pL pT pD pB pS so pR), (pL, zoLg lS aK aC aT aP lL lC (lA + 1) lP)]) [0, 1] rfl
  have hD9 := hD.sub (ws' := [(h0, zoPr pL pT pD pB pS so pR), (pL, zoLg lS aK aC aT aP lL lC (lA + 1) lP)]) [0, 1] (by decide) rfl
  exact W.iret hx hb hr (fun t ht hW => ⟨⟨(), trivial, rfl, by rw [ht]; exact hP9, hD9⟩, hS.F ht⟩) hS.2.2 d_Pr_archive_7
set_option maxHeartbeats 4000000 in
set_option maxRecDepth 100000 in
theorem c_Pr_look (l : Launch) (dC : Nat → ClassId) (dI : Nat → Nat → Nat) (cT : Nat → ClassId) (h0 : Nat) (pL : Nat) (pT : Nat) (pD : Nat) (pB : Nat) (pS : Nat) (pR : Nat) (so : Bool) (k : Int32) (scr : Nat → Int64) : Met l y_Pr_look w_Pr_look ({ frames := 1, cells := 0, slots := 0, locals := 20 } : Room) (zPreR (dC, dI) vwCl (zT cT) [.ref h0, .int k] ([(h0, zoPr pL pT pD pB pS so pR), (pS, zaJ (cT 1) 32 scr)])) (k2_QcV (.long (if isIn k 32 = true ∧ so = true then scr (kN k) else (-1000000000000)))) 0 0 (fun _ => False) := by
  refine Met.ofW (cc := b_Pr_look) (maxL := 2) (ret := (some .long)) (by decide) rfl ?_
  intro p e s m args below meth c s₁ B hml hv
  obtain ⟨rfl, hP, hK, hE⟩ := hv
  have hx := B.exec
  have hb := B.bytes
  have hr := B.returns
  have hts := fun w h => atoms_spec (ws := w_Pr_look) B.pre w (List.mem_cons_of_mem _ h)
  have hown : s.vm.findClass R_Pr = some m.cls := findClass_of_methodNamed B.named
  have hlocks := B.notSynchronized
  have hl := lv_entry ([.ref h0, .int k]) (n := 2) (Nat.le_of_ble_eq_true rfl)
  rw [lg_entry_eq]
  generalize (lg_sl ([.ref h0, .int k]) ++ List.replicate (2 - (lg_sl ([.ref h0, .int k])).length) Slot.unset).toArray = ls at hl ⊢
  have hl : lv_has ls 2 [(0, .ref h0), (1, .int k)] := hl
  refine lv_iload_n hx hb d_Pr_look_0 rfl (lv_at hl 1 rfl) ?_
  refine zw_R (r := .int (zb (isIn k 32))) (va_runS (As := [.int k]) (rest := []) ⟨hx, hb, hml, hown, hts⟩ (c_Pr_isKey l dC dI cT k) (va_cwS 1 hts (zgS wd_190 wd_191 wd_1 wd_192) rfl rfl rfl (by decide +kernel) ⟨Nat.le_of_ble_eq_true rfl, Nat.le_of_ble_eq_true rfl⟩) ⟨zPreR_blind, zp_R hK hE (zSub (X := [(h0, zoPr pL pT pD pB pS so pR), (pS, zaJ (cT 1) 32 scr)]) (pl := []) hP [] rfl)⟩ rfl rfl hl.1 rfl (lv_room (Nat.le_of_ble_eq_true rfl)) d_Pr_look_1 ⟨Nat.le_of_ble_eq_true rfl, Nat.le_of_ble_eq_true rfl⟩) ?_
  refine zb_if_eq (tgt := 23) hx hb d_Pr_look_4 (by decide) (fun c_4 => ?_) (fun c_4 => ?_)
  · refine lv_ldc2 (v := (-1000000000000)) hx hb hown (hts _ wd_253) d_Pr_look_23 ?_
    exact W.lret hx hb hr (fun t ht hW => ⟨by rw [if_neg (fun q => by rw [c_4] at q; exact absurd q.1 (by decide))], ht⟩) (fun q h => by cases h) d_Pr_look_26
  · refine lv_aload_n hx hb d_Pr_look_7 rfl (lv_at hl 0 rfl) ?_
    refine va_get (D := (dC, dI)) (ci := 0) (v := .int (zb so)) (C := R_Pr) (T := F_Pr) (N := 7) hx hb hts i_Pr hown hK hP 0 rfl rfl 5 (by decide) (hts _ wd_157) (fun _ h9 => h9) rfl d_Pr_look_8 ?_
    refine zb_if_eq (tgt := 23) hx hb d_Pr_look_11 (by decide) (fun c_11 => ?_) (fun c_11 => ?_)
    · refine lv_ldc2 (v := (-1000000000000)) hx hb hown (hts _ wd_253) d_Pr_look_23 ?_
      exact W.lret hx hb hr (fun t ht hW => ⟨by rw [if_neg (fun q => by rw [c_11] at q; exact absurd q.2 (by decide))], ht⟩) (fun q h => by cases h) d_Pr_look_26
    · obtain ⟨hk1, hk2⟩ := isIn_of (by decide) c_4
      have hl : lv_has ls 2 [(0, .ref h0), (1, .int (nI (kN k)))] := by rw [← hk1]; exact hl
      refine lv_aload_n hx hb d_Pr_look_14 rfl (lv_at hl 0 rfl) ?_
      refine va_get (D := (dC, dI)) (ci := 0) (v := .ref pS) (C := R_Pr) (T := F_Pr) (N := 7) hx hb hts i_Pr hown hK hP 0 rfl rfl 4 (by decide) (hts _ wd_156) (fun _ h9 => h9) rfl d_Pr_look_15 ?_
      refine lv_iload_n hx hb d_Pr_look_18 rfl (lv_at hl 1 rfl) ?_
      refine zn_lald hx hb hK hP 1 1 rfl rfl (i := kN k) (by omega) (by omega) d_Pr_look_19 ?_
      refine lv_goto (tgt := 26) hx hb d_Pr_look_20 (by decide) ?_
      exact W.lret hx hb hr (fun t ht hW => ⟨by rw [if_pos ⟨c_4, c_11⟩], ht⟩) (fun q h => by cases h) d_Pr_look_26
set_option maxHeartbeats 4000000 in
set_option maxRecDepth 100000 in
theorem c_Pr_page_ref (l : Launch) (dC : Nat → ClassId) (dI : Nat → Nat → Nat) (cT : Nat → ClassId) (h0 : Nat) (pL : Nat) (pT : Nat) (pD : Nat) (pB : Nat) (pS : Nat) (pR : Nat) (so : Bool) (k : Int32) (w : Int32) (hno : isIn k 8 = false) : Met l y_Pr_page w_Pr_page ({ frames := 1, cells := 0, slots := 0, locals := 20 } : Room) (zPreR (dC, dI) vwCl (zT cT) [.ref h0, .int k, .int w] ([(h0, zoPr pL pT pD pB pS so pR)])) (k2_QcV (.int (-1))) 0 0 (fun _ => False) := by
  refine Met.ofW (cc := b_Pr_page) (maxL := 3) (ret := (some .int)) (by decide) rfl ?_
  intro p e s m args below meth c s₁ B hml hv
  obtain ⟨rfl, hP, hK, hE⟩ := hv
  have hx := B.exec
  have hb := B.bytes
  have hr := B.returns
  have hts := fun w h => atoms_spec (ws := w_Pr_page) B.pre w (List.mem_cons_of_mem _ h)
  have hown : s.vm.findClass R_Pr = some m.cls := findClass_of_methodNamed B.named
  have hlocks := B.notSynchronized
  have hl := lv_entry ([.ref h0, .int k, .int w]) (n := 3) (Nat.le_of_ble_eq_true rfl)
  rw [lg_entry_eq]
  generalize (lg_sl ([.ref h0, .int k, .int w]) ++ List.replicate (3 - (lg_sl ([.ref h0, .int k, .int w])).length) Slot.unset).toArray = ls at hl ⊢
  have hl : lv_has ls 3 [(0, .ref h0), (1, .int k), (2, .int w)] := hl
  refine lv_iload_n hx hb d_Pr_page_0 rfl (lv_at hl 1 rfl) ?_
  refine zw_R (r := .int (zb (isIn k 8))) (va_runS (As := [.int k]) (rest := []) ⟨hx, hb, hml, hown, hts⟩ (c_Pr_isPage l dC dI cT k) (va_cwS 1 hts (zgS wd_258 wd_259 wd_1 wd_260) rfl rfl rfl (by decide +kernel) ⟨Nat.le_of_ble_eq_true rfl, Nat.le_of_ble_eq_true rfl⟩) ⟨zPreR_blind, zp_R hK hE (zSub (X := [(h0, zoPr pL pT pD pB pS so pR)]) (pl := []) hP [] rfl)⟩ rfl rfl hl.1 rfl (lv_room (Nat.le_of_ble_eq_true rfl)) d_Pr_page_1 ⟨Nat.le_of_ble_eq_true rfl, Nat.le_of_ble_eq_true rfl⟩) ?_
  refine zb_if_ne (tgt := 9) hx hb d_Pr_page_4 (by decide) (fun c_4 => absurd c_4 (by rw [hno]; decide)) (fun c_4 => ?_)
  refine lv_iconst (v := (-1)) hx hb d_Pr_page_7 (by decide) ?_
  exact W.iret hx hb hr (fun t ht hW => ⟨rfl, ht⟩) (fun q h => by cases h) d_Pr_page_8
set_option maxHeartbeats 4000000 in
set_option maxRecDepth 100000 in
theorem c_Pr_page_refw (l : Launch) (dC : Nat → ClassId) (dI : Nat → Nat → Nat) (cT : Nat → ClassId) (h0 : Nat) (pL : Nat) (pT : Nat) (pD : Nat) (pB : Nat) (pS : Nat) (pR : Nat) (so : Bool) (pg : Nat) (w : Int32) (hp : pg < 8) (hno : isIn w 4 = false) : Met l y_Pr_page w_Pr_page ({ frames := 1, cells := 0, slots := 0, locals := 20 } : Room) (zPreR (dC, dI) vwCl (zT cT) [.ref h0, .int (nI pg), .int w] ([(h0, zoPr pL pT pD pB pS so pR)])) (k2_QcV (.int (-1))) 0 0 (fun _ => False) := by
  refine Met.ofW (cc := b_Pr_page) (maxL := 3) (ret := (some .int)) (by decide) rfl ?_
  intro p e s m args below meth c s₁ B hml hv
  obtain ⟨rfl, hP, hK, hE⟩ := hv
  have hx := B.exec
  have hb := B.bytes
  have hr := B.returns
  have hts := fun w h => atoms_spec (ws := w_Pr_page) B.pre w (List.mem_cons_of_mem _ h)
  have hown : s.vm.findClass R_Pr = some m.cls := findClass_of_methodNamed B.named
  have hlocks := B.notSynchronized
  have hl := lv_entry ([.ref h0, .int (nI pg), .int w]) (n := 3) (Nat.le_of_ble_eq_true rfl)
  rw [lg_entry_eq]
  generalize (lg_sl ([.ref h0, .int (nI pg), .int w]) ++ List.replicate (3 - (lg_sl ([.ref h0, .int (nI pg), .int w])).length) Slot.unset).toArray = ls at hl ⊢
  have hl : lv_has ls 3 [(0, .ref h0), (1, .int (nI pg)), (2, .int w)] := hl
  refine lv_iload_n hx hb d_Pr_page_0 rfl (lv_at hl 1 rfl) ?_
  refine zw_R (r := .int (zb (isIn (nI pg) 8))) (va_runS (As := [.int (nI pg)]) (rest := []) ⟨hx, hb, hml, hown, hts⟩ (c_Pr_isPage l dC dI cT (nI pg)) (va_cwS 1 hts (zgS wd_258 wd_259 wd_1 wd_260) rfl rfl rfl (by decide +kernel) ⟨Nat.le_of_ble_eq_true rfl, Nat.le_of_ble_eq_true rfl⟩) ⟨zPreR_blind, zp_R hK hE (zSub (X := [(h0, zoPr pL pT pD pB pS so pR)]) (pl := []) hP [] rfl)⟩ rfl rfl hl.1 rfl (lv_room (Nat.le_of_ble_eq_true rfl)) d_Pr_page_1 ⟨Nat.le_of_ble_eq_true rfl, Nat.le_of_ble_eq_true rfl⟩) ?_
  refine zb_if_ne (tgt := 9) hx hb d_Pr_page_4 (by decide) (fun c_4 => ?_) (fun c_4 => absurd c_4 (by rw [isIn_nI (by decide) hp]; decide))
  refine lv_iload_n hx hb d_Pr_page_9 rfl (lv_at hl 2 rfl) ?_
  refine lv_tableOut (tgt := 84) hx hb d_Pr_page_10 (isIn_out (by decide) hno) (by decide) ?_
  refine lv_iconst (v := (-1)) hx hb d_Pr_page_84 (by decide) ?_
  exact W.iret hx hb hr (fun t ht hW => ⟨rfl, ht⟩) (fun q h => by cases h) d_Pr_page_85
set_option maxHeartbeats 4000000 in
set_option maxRecDepth 100000 in
theorem c_Pr_page_0 (l : Launch) (dC : Nat → ClassId) (dI : Nat → Nat → Nat) (cT : Nat → ClassId) (h0 : Nat) (pL : Nat) (pT : Nat) (pD : Nat) (pB : Nat) (pS : Nat) (pR : Nat) (so : Bool) (lS : Nat) (aK : Nat) (aC : Nat) (aT : Nat) (aP : Nat) (lL : Nat) (lC : Nat) (lA : Nat) (lP : Nat) (pg : Nat) (pn : Nat → Nat) (hp : pg < 8) : Met l y_Pr_page w_Pr_page ({ frames := 1, cells := 0, slots := 0, locals := 21 } : Room) (zPreR (dC, dI) vwCl (zT cT) [.ref h0, .int (nI pg), .int (nI 0)] ([(h0, zoPr pL pT pD pB pS so pR), (pL, zoLg lS aK aC aT aP lL lC lA lP), (aP, zaN (cT 0) 8 pn)])) (k2_QcV (.int (nI (pn pg)))) 0 0 (fun _ => False) := by
  refine Met.ofW (cc := b_Pr_page) (maxL := 3) (ret := (some .int)) (by decide) rfl ?_
  intro p e s m args below meth c s₁ B hml hv
  obtain ⟨rfl, hP, hK, hE⟩ := hv
  have hx := B.exec
  have hb := B.bytes
  have hr := B.returns
  have hts := fun w h => atoms_spec (ws := w_Pr_page) B.pre w (List.mem_cons_of_mem _ h)
  have hown : s.vm.findClass R_Pr = some m.cls := findClass_of_methodNamed B.named
  have hlocks := B.notSynchronized
  have hl := lv_entry ([.ref h0, .int (nI pg), .int (nI 0)]) (n := 3) (Nat.le_of_ble_eq_true rfl)
  rw [lg_entry_eq]
  generalize (lg_sl ([.ref h0, .int (nI pg), .int (nI 0)]) ++ List.replicate (3 - (lg_sl ([.ref h0, .int (nI pg), .int (nI 0)])).length) Slot.unset).toArray = ls at hl ⊢
  have hl : lv_has ls 3 [(0, .ref h0), (1, .int (nI pg)), (2, .int (nI 0))] := hl
  refine lv_iload_n hx hb d_Pr_page_0 rfl (lv_at hl 1 rfl) ?_
  refine zw_R (r := .int (zb (isIn (nI pg) 8))) (va_runS (As := [.int (nI pg)]) (rest := []) ⟨hx, hb, hml, hown, hts⟩ (c_Pr_isPage l dC dI cT (nI pg)) (va_cwS 1 hts (zgS wd_258 wd_259 wd_1 wd_260) rfl rfl rfl (by decide +kernel) ⟨Nat.le_of_ble_eq_true rfl, Nat.le_of_ble_eq_true rfl⟩) ⟨zPreR_blind, zp_R hK hE (zSub (X := [(h0, zoPr pL pT pD pB pS so pR), (pL, zoLg lS aK aC aT aP lL lC lA lP), (aP, zaN (cT 0) 8 pn)]) (pl := []) hP [] rfl)⟩ rfl rfl hl.1 rfl (lv_room (Nat.le_of_ble_eq_true rfl)) d_Pr_page_1 ⟨Nat.le_of_ble_eq_true rfl, Nat.le_of_ble_eq_true rfl⟩) ?_
  refine zb_if_ne (tgt := 9) hx hb d_Pr_page_4 (by decide) (fun c_4 => ?_) (fun c_4 => absurd c_4 (by rw [isIn_nI (by decide) hp]; decide))
  refine lv_iload_n hx hb d_Pr_page_9 rfl (lv_at hl 2 rfl) ?_
  refine lv_tableIn (tgt := 40) hx hb d_Pr_page_10 (by decide) (by decide) rfl (by decide) ?_
  refine lv_aload_n hx hb d_Pr_page_40 rfl (lv_at hl 0 rfl) ?_
  refine va_get (D := (dC, dI)) (ci := 0) (v := .ref pL) (C := R_Pr) (T := F_Pr) (N := 7) hx hb hts i_Pr hown hK hP 0 rfl rfl 0 (by decide) (hts _ wd_152) (fun _ h9 => h9) rfl d_Pr_page_41 ?_
  refine lv_iload_n hx hb d_Pr_page_44 rfl (lv_at hl 1 rfl) ?_
  refine zw_R (r := .int (nI (pn pg))) (va_runV (As := [.int (nI pg)]) (rest := []) ⟨hx, hb, hml, hown, hts⟩ (c_Lg_numberOfPage l dC dI cT pL lS aK aC aT aP lL lC lA lP pg pn (by first | omega | assumption)) (cwV 1 hts (zgV wd_261 wd_262 wd_263 wd_4 wd_264) rfl rfl rfl (by decide +kernel) ⟨Nat.le_of_ble_eq_true rfl, Nat.le_of_ble_eq_true rfl⟩) ⟨zPreR_blind, va_recv hK hP (ci := 1) (q0 := 1) rfl rfl, zp_R hK hE (zSub (X := [(h0, zoPr pL pT pD pB pS so pR), (pL, zoLg lS aK aC aT aP lL lC lA lP), (aP, zaN (cT 0) 8 pn)]) (pl := []) hP [1, 2] rfl)⟩ rfl rfl hl.1 rfl (lv_room (Nat.le_of_ble_eq_true rfl)) d_Pr_page_45 ⟨Nat.le_of_ble_eq_true rfl, Nat.le_of_ble_eq_true rfl⟩) ?_
  exact W.iret hx hb hr (fun t ht hW => ⟨rfl, ht⟩) (fun q h => by cases h) d_Pr_page_48
set_option maxHeartbeats 4000000 in
set_option maxRecDepth 100000 in
theorem c_Pr_page_1 (l : Launch) (dC : Nat → ClassId) (dI : Nat → Nat → Nat) (cT : Nat → ClassId) (h0 : Nat) (pL : Nat) (pT : Nat) (pD : Nat) (pB : Nat) (pS : Nat) (pR : Nat) (so : Bool) (dA : Nat) (dB : Nat) (pg : Nat) (dn : Nat → Nat) (hp : pg < 8) : Met l y_Pr_page w_Pr_page ({ frames := 1, cells := 0, slots := 0, locals := 21 } : Room) (zPreR (dC, dI) vwCl (zT cT) [.ref h0, .int (nI pg), .int (nI 1)] ([(h0, zoPr pL pT pD pB pS so pR), (pD, zoDk dA dB), (dA, zaN (cT 0) 8 dn)])) (k2_QcV (.int (nI (dn pg)))) 0 0 (fun _ => False) := by
  refine Met.ofW (cc := b_Pr_page) (maxL := 3) (ret := (some .int)) (by decide) rfl ?_
  intro p e s m args below meth c s₁ B hml hv
  obtain ⟨rfl, hP, hK, hE⟩ := hv
  have hx := B.exec
  have hb := B.bytes
  have hr := B.returns
  have hts := fun w h => atoms_spec (ws := w_Pr_page) B.pre w (List.mem_cons_of_mem _ h)
  have hown : s.vm.findClass R_Pr = some m.cls := findClass_of_methodNamed B.named
  have hlocks := B.notSynchronized
  have hl := lv_entry ([.ref h0, .int (nI pg), .int (nI 1)]) (n := 3) (Nat.le_of_ble_eq_true rfl)
  rw [lg_entry_eq]
  generalize (lg_sl ([.ref h0, .int (nI pg), .int (nI 1)]) ++ List.replicate (3 - (lg_sl ([.ref h0, .int (nI pg), .int (nI 1)])).length) Slot.unset).toArray = ls at hl ⊢
  have hl : lv_has ls 3 [(0, .ref h0), (1, .int (nI pg)), (2, .int (nI 1))] := hl
  refine lv_iload_n hx hb d_Pr_page_0 rfl (lv_at hl 1 rfl) ?_
  refine zw_R (r := .int (zb (isIn (nI pg) 8))) (va_runS (As := [.int (nI pg)]) (rest := []) ⟨hx, hb, hml, hown, hts⟩ (c_Pr_isPage l dC dI cT (nI pg)) (va_cwS 1 hts (zgS wd_258 wd_259 wd_1 wd_260) rfl rfl rfl (by decide +kernel) ⟨Nat.le_of_ble_eq_true rfl, Nat.le_of_ble_eq_true rfl⟩) ⟨zPreR_blind, zp_R hK hE (zSub (X := [(h0, zoPr pL pT pD pB pS so pR), (pD, zoDk dA dB), (dA, zaN (cT 0) 8 dn)]) (pl := []) hP [] rfl)⟩ rfl rfl hl.1 rfl (lv_room (Nat.le_of_ble_eq_true rfl)) d_Pr_page_1 ⟨Nat.le_of_ble_eq_true rfl, Nat.le_of_ble_eq_true rfl⟩) ?_
  refine zb_if_ne (tgt := 9) hx hb d_Pr_page_4 (by decide) (fun c_4 => ?_) (fun c_4 => absurd c_4 (by rw [isIn_nI (by decide) hp]; decide))
  refine lv_iload_n hx hb d_Pr_page_9 rfl (lv_at hl 2 rfl) ?_
  refine lv_tableIn (tgt := 49) hx hb d_Pr_page_10 (by decide) (by decide) rfl (by decide) ?_
  refine lv_aload_n hx hb d_Pr_page_49 rfl (lv_at hl 0 rfl) ?_
  refine va_get (D := (dC, dI)) (ci := 0) (v := .ref pD) (C := R_Pr) (T := F_Pr) (N := 7) hx hb hts i_Pr hown hK hP 0 rfl rfl 2 (by decide) (hts _ wd_154) (fun _ h9 => h9) rfl d_Pr_page_50 ?_
  refine lv_iload_n hx hb d_Pr_page_53 rfl (lv_at hl 1 rfl) ?_
  refine zw_R (r := .int (nI (dn pg))) (va_runV (As := [.int (nI pg)]) (rest := []) ⟨hx, hb, hml, hown, hts⟩ (c_Dk_numberOf l dC dI cT pD dA dB pg dn (by first | omega | assumption)) (cwV 1 hts (zgV wd_516 wd_517 wd_518 wd_3 wd_519) rfl rfl rfl (by decide +kernel) ⟨Nat.le_of_ble_eq_true rfl, Nat.le_of_ble_eq_true rfl⟩) ⟨zPreR_blind, va_recv hK hP (ci := 3) (q0 := 1) rfl rfl, zp_R hK hE (zSub (X := [(h0, zoPr pL pT pD pB pS so pR), (pD, zoDk dA dB), (dA, zaN (cT 0) 8 dn)]) (pl := []) hP [1, 2] rfl)⟩ rfl rfl hl.1 rfl (lv_room (Nat.le_of_ble_eq_true rfl)) d_Pr_page_54 ⟨Nat.le_of_ble_eq_true rfl, Nat.le_of_ble_eq_true rfl⟩) ?_
  exact W.iret hx hb hr (fun t ht hW => ⟨rfl, ht⟩) (fun q h => by cases h) d_Pr_page_57
set_option maxHeartbeats 4000000 in
set_option maxRecDepth 100000 in
theorem c_Pr_page_2 (l : Launch) (dC : Nat → ClassId) (dI : Nat → Nat → Nat) (cT : Nat → ClassId) (h0 : Nat) (pL : Nat) (pT : Nat) (pD : Nat) (pB : Nat) (pS : Nat) (pR : Nat) (so : Bool) (dA : Nat) (dB : Nat) (pg : Nat) (dt : Nat → Bool) (hp : pg < 8) : Met l y_Pr_page w_Pr_page ({ frames := 1, cells := 0, slots := 0, locals := 21 } : Room) (zPreR (dC, dI) vwCl (zT cT) [.ref h0, .int (nI pg), .int (nI 2)] ([(h0, zoPr pL pT pD pB pS so pR), (pD, zoDk dA dB), (dB, zaZ (cT 2) 8 dt)])) (k2_QcV (.int (zb (!(dt pg))))) 0 0 (fun _ => False) := by
  refine Met.ofW (cc := b_Pr_page) (maxL := 3) (ret := (some .int)) (by decide) rfl ?_
  intro p e s m args below meth c s₁ B hml hv
  obtain ⟨rfl, hP, hK, hE⟩ := hv
  have hx := B.exec
  have hb := B.bytes
  have hr := B.returns
  have hts := fun w h => atoms_spec (ws := w_Pr_page) B.pre w (List.mem_cons_of_mem _ h)
  have hown : s.vm.findClass R_Pr = some m.cls := findClass_of_methodNamed B.named
  have hlocks := B.notSynchronized
  have hl := lv_entry ([.ref h0, .int (nI pg), .int (nI 2)]) (n := 3) (Nat.le_of_ble_eq_true rfl)
  rw [lg_entry_eq]
  generalize (lg_sl ([.ref h0, .int (nI pg), .int (nI 2)]) ++ List.replicate (3 - (lg_sl ([.ref h0, .int (nI pg), .int (nI 2)])).length) Slot.unset).toArray = ls at hl ⊢
  have hl : lv_has ls 3 [(0, .ref h0), (1, .int (nI pg)), (2, .int (nI 2))] := hl
  refine lv_iload_n hx hb d_Pr_page_0 rfl (lv_at hl 1 rfl) ?_
  refine zw_R (r := .int (zb (isIn (nI pg) 8))) (va_runS (As := [.int (nI pg)]) (rest := []) ⟨hx, hb, hml, hown, hts⟩ (c_Pr_isPage l dC dI cT (nI pg)) (va_cwS 1 hts (zgS wd_258 wd_259 wd_1 wd_260) rfl rfl rfl (by decide +kernel) ⟨Nat.le_of_ble_eq_true rfl, Nat.le_of_ble_eq_true rfl⟩) ⟨zPreR_blind, zp_R hK hE (zSub (X := [(h0, zoPr pL pT pD pB pS so pR), (pD, zoDk dA dB), (dB, zaZ (cT 2) 8 dt)]) (pl := []) hP [] rfl)⟩ rfl rfl hl.1 rfl (lv_room (Nat.le_of_ble_eq_true rfl)) d_Pr_page_1 ⟨Nat.le_of_ble_eq_true rfl, Nat.le_of_ble_eq_true rfl⟩) ?_
  refine zb_if_ne (tgt := 9) hx hb d_Pr_page_4 (by decide) (fun c_4 => ?_) (fun c_4 => absurd c_4 (by rw [isIn_nI (by decide) hp]; decide))
  refine lv_iload_n hx hb d_Pr_page_9 rfl (lv_at hl 2 rfl) ?_
  refine lv_tableIn (tgt := 58) hx hb d_Pr_page_10 (by decide) (by decide) rfl (by decide) ?_
  refine lv_aload_n hx hb d_Pr_page_58 rfl (lv_at hl 0 rfl) ?_
  refine va_get (D := (dC, dI)) (ci := 0) (v := .ref pD) (C := R_Pr) (T := F_Pr) (N := 7) hx hb hts i_Pr hown hK hP 0 rfl rfl 2 (by decide) (hts _ wd_154) (fun _ h9 => h9) rfl d_Pr_page_59 ?_
  refine lv_iload_n hx hb d_Pr_page_62 rfl (lv_at hl 1 rfl) ?_
  refine zw_R (r := .int (zb (!(dt pg)))) (va_runV (As := [.int (nI pg)]) (rest := []) ⟨hx, hb, hml, hown, hts⟩ (c_Dk_isReadable l dC dI cT pD dA dB pg dt (by first | omega | assumption)) (cwV 1 hts (zgV wd_520 wd_521 wd_522 wd_3 wd_523) rfl rfl rfl (by decide +kernel) ⟨Nat.le_of_ble_eq_true rfl, Nat.le_of_ble_eq_true rfl⟩) ⟨zPreR_blind, va_recv hK hP (ci := 3) (q0 := 1) rfl rfl, zp_R hK hE (zSub (X := [(h0, zoPr pL pT pD pB pS so pR), (pD, zoDk dA dB), (dB, zaZ (cT 2) 8 dt)]) (pl := []) hP [1, 2] rfl)⟩ rfl rfl hl.1 rfl (lv_room (Nat.le_of_ble_eq_true rfl)) d_Pr_page_63 ⟨Nat.le_of_ble_eq_true rfl, Nat.le_of_ble_eq_true rfl⟩) ?_
  refine zb_if_eq (tgt := 73) hx hb d_Pr_page_66 (by decide) (fun c_66 => ?_) (fun c_66 => ?_)
  · refine lv_iconst (v := (nI 0)) hx hb d_Pr_page_73 (by decide) ?_
    exact W.iret hx hb hr (fun t ht hW => ⟨by rw [c_66]; rfl, ht⟩) (fun q h => by cases h) d_Pr_page_74
  · refine lv_iconst (v := (nI 1)) hx hb d_Pr_page_69 (by decide) ?_
    refine lv_goto (tgt := 74) hx hb d_Pr_page_70 (by decide) ?_
    exact W.iret hx hb hr (fun t ht hW => ⟨by rw [c_66]; rfl, ht⟩) (fun q h => by cases h) d_Pr_page_74
set_option maxHeartbeats 4000000 in
set_option maxRecDepth 100000 in
theorem c_Pr_count_ref (l : Launch) (dC : Nat → ClassId) (dI : Nat → Nat → Nat) (cT : Nat → ClassId) (h0 : Nat) (pL : Nat) (pT : Nat) (pD : Nat) (pB : Nat) (pS : Nat) (pR : Nat) (so : Bool) (w : Int32) (hno : isIn w 9 = false) : Met l y_Pr_count w_Pr_count ({ frames := 0, cells := 0, slots := 0, locals := 0 } : Room) (zPreR (dC, dI) vwCl (zT cT) [.ref h0, .int w] ([(h0, zoPr pL pT pD pB pS so pR)])) (k2_QcV (.int (-1))) 0 0 (fun _ => False) := by
  refine Met.ofW (cc := b_Pr_count) (maxL := 2) (ret := (some .int)) (by decide) rfl ?_
  intro p e s m args below meth c s₁ B hml hv
  obtain ⟨rfl, hP, hK, hE⟩ := hv
  have hx := B.exec
  have hb := B.bytes
  have hr := B.returns
  have hts := fun w h => atoms_spec (ws := w_Pr_count) B.pre w (List.mem_cons_of_mem _ h)
  have hown : s.vm.findClass R_Pr = some m.cls := findClass_of_methodNamed B.named
  have hlocks := B.notSynchronized
  have hl := lv_entry ([.ref h0, .int w]) (n := 2) (Nat.le_of_ble_eq_true rfl)
  rw [lg_entry_eq]
  generalize (lg_sl ([.ref h0, .int w]) ++ List.replicate (2 - (lg_sl ([.ref h0, .int w])).length) Slot.unset).toArray = ls at hl ⊢
  have hl : lv_has ls 2 [(0, .ref h0), (1, .int w)] := hl
  refine lv_iload_n hx hb d_Pr_count_0 rfl (lv_at hl 1 rfl) ?_
  refine lv_tableOut (tgt := 140) hx hb d_Pr_count_1 (isIn_out (by decide) hno) (by decide) ?_
  refine lv_iconst (v := (-1)) hx hb d_Pr_count_140 (by decide) ?_
  exact W.iret hx hb hr (fun t ht hW => ⟨rfl, ht⟩) (fun q h => by cases h) d_Pr_count_141
set_option maxHeartbeats 4000000 in
set_option maxRecDepth 100000 in
theorem c_Pr_count_0 (l : Launch) (dC : Nat → ClassId) (dI : Nat → Nat → Nat) (cT : Nat → ClassId) (h0 : Nat) (pL : Nat) (pT : Nat) (pD : Nat) (pB : Nat) (pS : Nat) (pR : Nat) (so : Bool) (lS : Nat) (aK : Nat) (aC : Nat) (aT : Nat) (aP : Nat) (lL : Nat) (lC : Nat) (lA : Nat) (lP : Nat) : Met l y_Pr_count w_Pr_count ({ frames := 1, cells := 0, slots := 0, locals := 20 } : Room) (zPreR (dC, dI) vwCl (zT cT) [.ref h0, .int (nI 0)] ([(h0, zoPr pL pT pD pB pS so pR), (pL, zoLg lS aK aC aT aP lL lC lA lP)])) (k2_QcV (.int (nI lL))) 0 0 (fun _ => False) := by
  refine Met.ofW (cc := b_Pr_count) (maxL := 2) (ret := (some .int)) (by decide) rfl ?_
  intro p e s m args below meth c s₁ B hml hv
  obtain ⟨rfl, hP, hK, hE⟩ := hv
  have hx := B.exec
  have hb := B.bytes
  have hr := B.returns
  have hts := fun w h => atoms_spec (ws := w_Pr_count) B.pre w (List.mem_cons_of_mem _ h)
  have hown : s.vm.findClass R_Pr = some m.cls := findClass_of_methodNamed B.named
  have hlocks := B.notSynchronized
  have hl := lv_entry ([.ref h0, .int (nI 0)]) (n := 2) (Nat.le_of_ble_eq_true rfl)
  rw [lg_entry_eq]
  generalize (lg_sl ([.ref h0, .int (nI 0)]) ++ List.replicate (2 - (lg_sl ([.ref h0, .int (nI 0)])).length) Slot.unset).toArray = ls at hl ⊢
  have hl : lv_has ls 2 [(0, .ref h0), (1, .int (nI 0))] := hl
  refine lv_iload_n hx hb d_Pr_count_0 rfl (lv_at hl 1 rfl) ?_
  refine lv_tableIn (tgt := 52) hx hb d_Pr_count_1 (by decide) (by decide) rfl (by decide) ?_
  refine lv_aload_n hx hb d_Pr_count_52 rfl (lv_at hl 0 rfl) ?_
  refine va_get (D := (dC, dI)) (ci := 0) (v := .ref pL) (C := R_Pr) (T := F_Pr) (N := 7) hx hb hts i_Pr hown hK hP 0 rfl rfl 0 (by decide) (hts _ wd_152) (fun _ h9 => h9) rfl d_Pr_count_53 ?_
  refine zw_R (r := .int (nI lL)) (va_runV (As := []) (rest := []) ⟨hx, hb, hml, hown, hts⟩ (c_Lg_latest l dC dI cT pL lS aK aC aT aP lL lC lA lP) (cwV 0 hts (zgV wd_281 wd_282 wd_283 wd_4 wd_284) rfl rfl rfl (by decide +kernel) ⟨Nat.le_of_ble_eq_true rfl, Nat.le_of_ble_eq_true rfl⟩) ⟨zPreR_blind, va_recv hK hP (ci := 1) (q0 := 1) rfl rfl, zp_R hK hE (zSub (X := [(h0, zoPr pL pT pD pB pS so pR), (pL, zoLg lS aK aC aT aP lL lC lA lP)]) (pl := []) hP [1] rfl)⟩ rfl rfl hl.1 rfl (lv_room (Nat.le_of_ble_eq_true rfl)) d_Pr_count_56 ⟨Nat.le_of_ble_eq_true rfl, Nat.le_of_ble_eq_true rfl⟩) ?_
  exact W.iret hx hb hr (fun t ht hW => ⟨rfl, ht⟩) (fun q h => by cases h) d_Pr_count_59
set_option maxHeartbeats 4000000 in
set_option maxRecDepth 100000 in
theorem c_Pr_count_1 (l : Launch) (dC : Nat → ClassId) (dI : Nat → Nat → Nat) (cT : Nat → ClassId) (h0 : Nat) (pL : Nat) (pT : Nat) (pD : Nat) (pB : Nat) (pS : Nat) (pR : Nat) (so : Bool) (lS : Nat) (aK : Nat) (aC : Nat) (aT : Nat) (aP : Nat) (lL : Nat) (lC : Nat) (lA : Nat) (lP : Nat) : Met l y_Pr_count w_Pr_count ({ frames := 1, cells := 0, slots := 0, locals := 20 } : Room) (zPreR (dC, dI) vwCl (zT cT) [.ref h0, .int (nI 1)] ([(h0, zoPr pL pT pD pB pS so pR), (pL, zoLg lS aK aC aT aP lL lC lA lP)])) (k2_QcV (.int (nI lC))) 0 0 (fun _ => False) := by
  refine Met.ofW (cc := b_Pr_count) (maxL := 2) (ret := (some .int)) (by decide) rfl ?_
  intro p e s m args below meth c s₁ B hml hv
  obtain ⟨rfl, hP, hK, hE⟩ := hv
  have hx := B.exec
  have hb := B.bytes
  have hr := B.returns
  have hts := fun w h => atoms_spec (ws := w_Pr_count) B.pre w (List.mem_cons_of_mem _ h)
  have hown : s.vm.findClass R_Pr = some m.cls := findClass_of_methodNamed B.named
  have hlocks := B.notSynchronized
  have hl := lv_entry ([.ref h0, .int (nI 1)]) (n := 2) (Nat.le_of_ble_eq_true rfl)
  rw [lg_entry_eq]
  generalize (lg_sl ([.ref h0, .int (nI 1)]) ++ List.replicate (2 - (lg_sl ([.ref h0, .int (nI 1)])).length) Slot.unset).toArray = ls at hl ⊢
  have hl : lv_has ls 2 [(0, .ref h0), (1, .int (nI 1))] := hl
  refine lv_iload_n hx hb d_Pr_count_0 rfl (lv_at hl 1 rfl) ?_
  refine lv_tableIn (tgt := 60) hx hb d_Pr_count_1 (by decide) (by decide) rfl (by decide) ?_
  refine lv_aload_n hx hb d_Pr_count_60 rfl (lv_at hl 0 rfl) ?_
  refine va_get (D := (dC, dI)) (ci := 0) (v := .ref pL) (C := R_Pr) (T := F_Pr) (N := 7) hx hb hts i_Pr hown hK hP 0 rfl rfl 0 (by decide) (hts _ wd_152) (fun _ h9 => h9) rfl d_Pr_count_61 ?_
  refine zw_R (r := .int (nI lC)) (va_runV (As := []) (rest := []) ⟨hx, hb, hml, hown, hts⟩ (c_Lg_commits l dC dI cT pL lS aK aC aT aP lL lC lA lP) (cwV 0 hts (zgV wd_480 wd_481 wd_482 wd_4 wd_483) rfl rfl rfl (by decide +kernel) ⟨Nat.le_of_ble_eq_true rfl, Nat.le_of_ble_eq_true rfl⟩) ⟨zPreR_blind, va_recv hK hP (ci := 1) (q0 := 1) rfl rfl, zp_R hK hE (zSub (X := [(h0, zoPr pL pT pD pB pS so pR), (pL, zoLg lS aK aC aT aP lL lC lA lP)]) (pl := []) hP [1] rfl)⟩ rfl rfl hl.1 rfl (lv_room (Nat.le_of_ble_eq_true rfl)) d_Pr_count_64 ⟨Nat.le_of_ble_eq_true rfl, Nat.le_of_ble_eq_true rfl⟩) ?_
  exact W.iret hx hb hr (fun t ht hW => ⟨rfl, ht⟩) (fun q h => by cases h) d_Pr_count_67
set_option maxHeartbeats 4000000 in
set_option maxRecDepth 100000 in
theorem c_Pr_count_3 (l : Launch) (dC : Nat → ClassId) (dI : Nat → Nat → Nat) (cT : Nat → ClassId) (h0 : Nat) (pL : Nat) (pT : Nat) (pD : Nat) (pB : Nat) (pS : Nat) (pR : Nat) (so : Bool) (lS : Nat) (aK : Nat) (aC : Nat) (aT : Nat) (aP : Nat) (lL : Nat) (lC : Nat) (lA : Nat) (lP : Nat) (h0s : 0 < lS) (hs : lS ≤ 8) (hL : lL ≤ 800) (hA0 : lA ≤ (lL + lS - 1) / lS) (hA1 : (lL + lS - 1) / lS < 2 ^ 31) : Met l y_Pr_count w_Pr_count ({ frames := 1, cells := 0, slots := 0, locals := 21 } : Room) (zPreR (dC, dI) vwCl (zT cT) [.ref h0, .int (nI 3)] ([(h0, zoPr pL pT pD pB pS so pR), (pL, zoLg lS aK aC aT aP lL lC lA lP)])) (k2_QcV (.int (nI ((lL + lS - 1) / lS - lA)))) 0 0 (fun _ => False) := by
  refine Met.ofW (cc := b_Pr_count) (maxL := 2) (ret := (some .int)) (by decide) rfl ?_
  intro p e s m args below meth c s₁ B hml hv
  obtain ⟨rfl, hP, hK, hE⟩ := hv
  have hx := B.exec
  have hb := B.bytes
  have hr := B.returns
  have hts := fun w h => atoms_spec (ws := w_Pr_count) B.pre w (List.mem_cons_of_mem _ h)
  have hown : s.vm.findClass R_Pr = some m.cls := findClass_of_methodNamed B.named
  have hlocks := B.notSynchronized
  have hl := lv_entry ([.ref h0, .int (nI 3)]) (n := 2) (Nat.le_of_ble_eq_true rfl)
  rw [lg_entry_eq]
  generalize (lg_sl ([.ref h0, .int (nI 3)]) ++ List.replicate (2 - (lg_sl ([.ref h0, .int (nI 3)])).length) Slot.unset).toArray = ls at hl ⊢
  have hl : lv_has ls 2 [(0, .ref h0), (1, .int (nI 3))] := hl
  refine lv_iload_n hx hb d_Pr_count_0 rfl (lv_at hl 1 rfl) ?_
  refine lv_tableIn (tgt := 76) hx hb d_Pr_count_1 (by decide) (by decide) rfl (by decide) ?_
  refine lv_aload_n hx hb d_Pr_count_76 rfl (lv_at hl 0 rfl) ?_
  refine va_get (D := (dC, dI)) (ci := 0) (v := .ref pL) (C := R_Pr) (T := F_Pr) (N := 7) hx hb hts i_Pr hown hK hP 0 rfl rfl 0 (by decide) (hts _ wd_152) (fun _ h9 => h9) rfl d_Pr_count_77 ?_
  refine zw_R (r := .int (nI ((lL + lS - 1) / lS - lA))) (va_runV (As := []) (rest := []) ⟨hx, hb, hml, hown, hts⟩ (c_Lg_online l dC dI cT pL lS aK aC aT aP lL lC lA lP (by first | omega | assumption) (by first | omega | assumption) (by first | omega | assumption) (by first | omega | assumption) (by first | omega | assumption)) (cwV 0 hts (zgV wd_542 wd_543 wd_544 wd_4 wd_545) rfl rfl rfl (by decide +kernel) ⟨Nat.le_of_ble_eq_true rfl, Nat.le_of_ble_eq_true rfl⟩) ⟨zPreR_blind, va_recv hK hP (ci := 1) (q0 := 1) rfl rfl, zp_R hK hE (zSub (X := [(h0, zoPr pL pT pD pB pS so pR), (pL, zoLg lS aK aC aT aP lL lC lA lP)]) (pl := []) hP [1] rfl)⟩ rfl rfl hl.1 rfl (lv_room (Nat.le_of_ble_eq_true rfl)) d_Pr_count_80 ⟨Nat.le_of_ble_eq_true rfl, Nat.le_of_ble_eq_true rfl⟩) ?_
  exact W.iret hx hb hr (fun t ht hW => ⟨rfl, ht⟩) (fun q h => by cases h) d_Pr_count_83
set_option maxHeartbeats 4000000 in
set_option maxRecDepth 100000 in
theorem c_Pr_count_4 (l : Launch) (dC : Nat → ClassId) (dI : Nat → Nat → Nat) (cT : Nat → ClassId) (h0 : Nat) (pL : Nat) (pT : Nat) (pD : Nat) (pB : Nat) (pS : Nat) (pR : Nat) (so : Bool) (lS : Nat) (aK : Nat) (aC : Nat) (aT : Nat) (aP : Nat) (lL : Nat) (lC : Nat) (lA : Nat) (lP : Nat) (hPA : lP ≤ lA) : Met l y_Pr_count w_Pr_count ({ frames := 1, cells := 0, slots := 0, locals := 20 } : Room) (zPreR (dC, dI) vwCl (zT cT) [.ref h0, .int (nI 4)] ([(h0, zoPr pL pT pD pB pS so pR), (pL, zoLg lS aK aC aT aP lL lC lA lP)])) (k2_QcV (.int (nI (lA - lP)))) 0 0 (fun _ => False) := by
  refine Met.ofW (cc := b_Pr_count) (maxL := 2) (ret := (some .int)) (by decide) rfl ?_
  intro p e s m args below meth c s₁ B hml hv
  obtain ⟨rfl, hP, hK, hE⟩ := hv
  have hx := B.exec
  have hb := B.bytes
  have hr := B.returns
  have hts := fun w h => atoms_spec (ws := w_Pr_count) B.pre w (List.mem_cons_of_mem _ h)
  have hown : s.vm.findClass R_Pr = some m.cls := findClass_of_methodNamed B.named
  have hlocks := B.notSynchronized
  have hl := lv_entry ([.ref h0, .int (nI 4)]) (n := 2) (Nat.le_of_ble_eq_true rfl)
  rw [lg_entry_eq]
  generalize (lg_sl ([.ref h0, .int (nI 4)]) ++ List.replicate (2 - (lg_sl ([.ref h0, .int (nI 4)])).length) Slot.unset).toArray = ls at hl ⊢
  have hl : lv_has ls 2 [(0, .ref h0), (1, .int (nI 4))] := hl
  refine lv_iload_n hx hb d_Pr_count_0 rfl (lv_at hl 1 rfl) ?_
  refine lv_tableIn (tgt := 84) hx hb d_Pr_count_1 (by decide) (by decide) rfl (by decide) ?_
  refine lv_aload_n hx hb d_Pr_count_84 rfl (lv_at hl 0 rfl) ?_
  refine va_get (D := (dC, dI)) (ci := 0) (v := .ref pL) (C := R_Pr) (T := F_Pr) (N := 7) hx hb hts i_Pr hown hK hP 0 rfl rfl 0 (by decide) (hts _ wd_152) (fun _ h9 => h9) rfl d_Pr_count_85 ?_
  refine zw_R (r := .int (nI lA)) (va_runV (As := []) (rest := []) ⟨hx, hb, hml, hown, hts⟩ (c_Lg_archived l dC dI cT pL lS aK aC aT aP lL lC lA lP) (cwV 0 hts (zgV wd_546 wd_547 wd_548 wd_4 wd_549) rfl rfl rfl (by decide +kernel) ⟨Nat.le_of_ble_eq_true rfl, Nat.le_of_ble_eq_true rfl⟩) ⟨zPreR_blind, va_recv hK hP (ci := 1) (q0 := 1) rfl rfl, zp_R hK hE (zSub (X := [(h0, zoPr pL pT pD pB pS so pR), (pL, zoLg lS aK aC aT aP lL lC lA lP)]) (pl := []) hP [1] rfl)⟩ rfl rfl hl.1 rfl (lv_room (Nat.le_of_ble_eq_true rfl)) d_Pr_count_88 ⟨Nat.le_of_ble_eq_true rfl, Nat.le_of_ble_eq_true rfl⟩) ?_
  refine lv_aload_n hx hb d_Pr_count_91 rfl (lv_at hl 0 rfl) ?_
  refine va_get (D := (dC, dI)) (ci := 0) (v := .ref pL) (C := R_Pr) (T := F_Pr) (N := 7) hx hb hts i_Pr hown hK hP 0 rfl rfl 0 (by decide) (hts _ wd_152) (fun _ h9 => h9) rfl d_Pr_count_92 ?_
  refine zw_R (r := .int (nI lP)) (va_runV (As := []) (rest := [.int (nI lA)]) ⟨hx, hb, hml, hown, hts⟩ (c_Lg_purged l dC dI cT pL lS aK aC aT aP lL lC lA lP) (cwV 0 hts (zgV wd_492 wd_493 wd_494 wd_4 wd_495) rfl rfl rfl (by decide +kernel) ⟨Nat.le_of_ble_eq_true rfl, Nat.le_of_ble_eq_true rfl⟩) ⟨zPreR_blind, va_recv hK hP (ci := 1) (q0 := 1) rfl rfl, zp_R hK hE (zSub (X := [(h0, zoPr pL pT pD pB pS so pR), (pL, zoLg lS aK aC aT aP lL lC lA lP)]) (pl := []) hP [1] rfl)⟩ rfl rfl hl.1 rfl (lv_room (Nat.le_of_ble_eq_true rfl)) d_Pr_count_95 ⟨Nat.le_of_ble_eq_true rfl, Nat.le_of_ble_eq_true rfl⟩) ?_
  refine zn_isub hx hb (by omega) d_Pr_count_98 ?_
  exact W.iret hx hb hr (fun t ht hW => ⟨rfl, ht⟩) (fun q h => by cases h) d_Pr_count_99
set_option maxHeartbeats 4000000 in
set_option maxRecDepth 100000 in
theorem c_Pr_count_5 (l : Launch) (dC : Nat → ClassId) (dI : Nat → Nat → Nat) (cT : Nat → ClassId) (h0 : Nat) (pL : Nat) (pT : Nat) (pD : Nat) (pB : Nat) (pS : Nat) (pR : Nat) (so : Bool) (lS : Nat) (aK : Nat) (aC : Nat) (aT : Nat) (aP : Nat) (lL : Nat) (lC : Nat) (lA : Nat) (lP : Nat) (hm : (lA + 4) * lS < 2 ^ 31) (hl0 : lL ≤ min ((lA + 4) * lS) 800) : Met l y_Pr_count w_Pr_count ({ frames := 2, cells := 0, slots := 0, locals := 41 } : Room) (zPreR (dC, dI) vwCl (zT cT) [.ref h0, .int (nI 5)] ([(h0, zoPr pL pT pD pB pS so pR), (pL, zoLg lS aK aC aT aP lL lC lA lP)])) (k2_QcV (.int (nI (min ((lA + 4) * lS) 800 - lL)))) 0 0 (fun _ => False) := by
  refine Met.ofW (cc := b_Pr_count) (maxL := 2) (ret := (some .int)) (by decide) rfl ?_
  intro p e s m args below meth c s₁ B hml hv
  obtain ⟨rfl, hP, hK, hE⟩ := hv
  have hx := B.exec
  have hb := B.bytes
  have hr := B.returns
  have hts := fun w h => atoms_spec (ws := w_Pr_count) B.pre w (List.mem_cons_of_mem _ h)
  have hown : s.vm.findClass R_Pr = some m.cls := findClass_of_methodNamed B.named
  have hlocks := B.notSynchronized
  have hl := lv_entry ([.ref h0, .int (nI 5)]) (n := 2) (Nat.le_of_ble_eq_true rfl)
  rw [lg_entry_eq]
  generalize (lg_sl ([.ref h0, .int (nI 5)]) ++ List.replicate (2 - (lg_sl ([.ref h0, .int (nI 5)])).length) Slot.unset).toArray = ls at hl ⊢
  have hl : lv_has ls 2 [(0, .ref h0), (1, .int (nI 5))] := hl
  refine lv_iload_n hx hb d_Pr_count_0 rfl (lv_at hl 1 rfl) ?_
  refine lv_tableIn (tgt := 100) hx hb d_Pr_count_1 (by decide) (by decide) rfl (by decide) ?_
  refine lv_aload_n hx hb d_Pr_count_100 rfl (lv_at hl 0 rfl) ?_
  refine va_get (D := (dC, dI)) (ci := 0) (v := .ref pL) (C := R_Pr) (T := F_Pr) (N := 7) hx hb hts i_Pr hown hK hP 0 rfl rfl 0 (by decide) (hts _ wd_152) (fun _ h9 => h9) rfl d_Pr_count_101 ?_
  refine zw_R (r := .int (nI (min ((lA + 4) * lS) 800 - lL))) (va_runV (As := []) (rest := []) ⟨hx, hb, hml, hown, hts⟩ (c_Lg_left l dC dI cT pL lS aK aC aT aP lL lC lA lP (by first | omega | assumption) (by first | omega | assumption)) (cwV 0 hts (zgV wd_201 wd_202 wd_203 wd_4 wd_204) rfl rfl rfl (by decide +kernel) ⟨Nat.le_of_ble_eq_true rfl, Nat.le_of_ble_eq_true rfl⟩) ⟨zPreR_blind, va_recv hK hP (ci := 1) (q0 := 1) rfl rfl, zp_R hK hE (zSub (X := [(h0, zoPr pL pT pD pB pS so pR), (pL, zoLg lS aK aC aT aP lL lC lA lP)]) (pl := []) hP [1] rfl)⟩ rfl rfl hl.1 rfl (lv_room (Nat.le_of_ble_eq_true rfl)) d_Pr_count_104 ⟨Nat.le_of_ble_eq_true rfl, Nat.le_of_ble_eq_true rfl⟩) ?_
  exact W.iret hx hb hr (fun t ht hW => ⟨rfl, ht⟩) (fun q h => by cases h) d_Pr_count_107
set_option maxHeartbeats 4000000 in
set_option maxRecDepth 100000 in
theorem c_Pr_count_6 (l : Launch) (dC : Nat → ClassId) (dI : Nat → Nat → Nat) (cT : Nat → ClassId) (h0 : Nat) (pL : Nat) (pT : Nat) (pD : Nat) (pB : Nat) (pS : Nat) (pR : Nat) (so : Bool) (xK : Nat) (xR : Nat) (ch : Nat) (op : Bool) : Met l y_Pr_count w_Pr_count ({ frames := 1, cells := 0, slots := 0, locals := 20 } : Room) (zPreR (dC, dI) vwCl (zT cT) [.ref h0, .int (nI 6)] ([(h0, zoPr pL pT pD pB pS so pR), (pT, zoTx xK xR ch op)])) (k2_QcV (.int (zb op))) 0 0 (fun _ => False) := by
  refine Met.ofW (cc := b_Pr_count) (maxL := 2) (ret := (some .int)) (by decide) rfl ?_
  intro p e s m args below meth c s₁ B hml hv
  obtain ⟨rfl, hP, hK, hE⟩ := hv
  have hx := B.exec
  have hb := B.bytes
  have hr := B.returns
  have hts := fun w h => atoms_spec (ws := w_Pr_count) B.pre w (List.mem_cons_of_mem _ h)
  have hown : s.vm.findClass R_Pr = some m.cls := findClass_of_methodNamed B.named
  have hlocks := B.notSynchronized
  have hl := lv_entry ([.ref h0, .int (nI 6)]) (n := 2) (Nat.le_of_ble_eq_true rfl)
  rw [lg_entry_eq]
  generalize (lg_sl ([.ref h0, .int (nI 6)]) ++ List.replicate (2 - (lg_sl ([.ref h0, .int (nI 6)])).length) Slot.unset).toArray = ls at hl ⊢
  have hl : lv_has ls 2 [(0, .ref h0), (1, .int (nI 6))] := hl
  refine lv_iload_n hx hb d_Pr_count_0 rfl (lv_at hl 1 rfl) ?_
  refine lv_tableIn (tgt := 108) hx hb d_Pr_count_1 (by decide) (by decide) rfl (by decide) ?_
  refine lv_aload_n hx hb d_Pr_count_108 rfl (lv_at hl 0 rfl) ?_
  refine va_get (D := (dC, dI)) (ci := 0) (v := .ref pT) (C := R_Pr) (T := F_Pr) (N := 7) hx hb hts i_Pr hown hK hP 0 rfl rfl 1 (by decide) (hts _ wd_153) (fun _ h9 => h9) rfl d_Pr_count_109 ?_
  refine zw_R (r := .int (zb op)) (va_runV (As := []) (rest := []) ⟨hx, hb, hml, hown, hts⟩ (c_Tx_isOpen l dC dI cT pT xK xR ch op) (cwV 0 hts (zgV wd_178 wd_179 wd_180 wd_2 wd_181) rfl rfl rfl (by decide +kernel) ⟨Nat.le_of_ble_eq_true rfl, Nat.le_of_ble_eq_true rfl⟩) ⟨zPreR_blind, va_recv hK hP (ci := 2) (q0 := 1) rfl rfl, zp_R hK hE (zSub (X := [(h0, zoPr pL pT pD pB pS so pR), (pT, zoTx xK xR ch op)]) (pl := []) hP [1] rfl)⟩ rfl rfl hl.1 rfl (lv_room (Nat.le_of_ble_eq_true rfl)) d_Pr_count_112 ⟨Nat.le_of_ble_eq_true rfl, Nat.le_of_ble_eq_true rfl⟩) ?_
  refine zb_if_eq (tgt := 122) hx hb d_Pr_count_115 (by decide) (fun c_115 => ?_) (fun c_115 => ?_)
  · refine lv_iconst (v := (nI 0)) hx hb d_Pr_count_122 (by decide) ?_
    exact W.iret hx hb hr (fun t ht hW => ⟨by rw [c_115]; rfl, ht⟩) (fun q h => by cases h) d_Pr_count_123
  · refine lv_iconst (v := (nI 1)) hx hb d_Pr_count_118 (by decide) ?_
    refine lv_goto (tgt := 123) hx hb d_Pr_count_119 (by decide) ?_
    exact W.iret hx hb hr (fun t ht hW => ⟨by rw [c_115]; rfl, ht⟩) (fun q h => by cases h) d_Pr_count_123
set_option maxHeartbeats 4000000 in
set_option maxRecDepth 100000 in
theorem c_Pr_count_8 (l : Launch) (dC : Nat → ClassId) (dI : Nat → Nat → Nat) (cT : Nat → ClassId) (h0 : Nat) (pL : Nat) (pT : Nat) (pD : Nat) (pB : Nat) (pS : Nat) (pR : Nat) (so : Bool) (xK : Nat) (xR : Nat) (ch : Nat) (op : Bool) : Met l y_Pr_count w_Pr_count ({ frames := 1, cells := 0, slots := 0, locals := 20 } : Room) (zPreR (dC, dI) vwCl (zT cT) [.ref h0, .int (nI 8)] ([(h0, zoPr pL pT pD pB pS so pR), (pT, zoTx xK xR ch op)])) (k2_QcV (.int (nI ch))) 0 0 (fun _ => False) := by
  refine Met.ofW (cc := b_Pr_count) (maxL := 2) (ret := (some .int)) (by decide) rfl ?_
  intro p e s m args below meth c s₁ B hml hv
  obtain ⟨rfl, hP, hK, hE⟩ := hv
  have hx := B.exec
  have hb := B.bytes
  have hr := B.returns
  have hts := fun w h => atoms_spec (ws := w_Pr_count) B.pre w (List.mem_cons_of_mem _ h)
  have hown : s.vm.findClass R_Pr = some m.cls := findClass_of_methodNamed B.named
  have hlocks := B.notSynchronized
  have hl := lv_entry ([.ref h0, .int (nI 8)]) (n := 2) (Nat.le_of_ble_eq_true rfl)
  rw [lg_entry_eq]
  generalize (lg_sl ([.ref h0, .int (nI 8)]) ++ List.replicate (2 - (lg_sl ([.ref h0, .int (nI 8)])).length) Slot.unset).toArray = ls at hl ⊢
  have hl : lv_has ls 2 [(0, .ref h0), (1, .int (nI 8))] := hl
  refine lv_iload_n hx hb d_Pr_count_0 rfl (lv_at hl 1 rfl) ?_
  refine lv_tableIn (tgt := 132) hx hb d_Pr_count_1 (by decide) (by decide) rfl (by decide) ?_
  refine lv_aload_n hx hb d_Pr_count_132 rfl (lv_at hl 0 rfl) ?_
  refine va_get (D := (dC, dI)) (ci := 0) (v := .ref pT) (C := R_Pr) (T := F_Pr) (N := 7) hx hb hts i_Pr hown hK hP 0 rfl rfl 1 (by decide) (hts _ wd_153) (fun _ h9 => h9) rfl d_Pr_count_133 ?_
  refine zw_R (r := .int (nI ch)) (va_runV (As := []) (rest := []) ⟨hx, hb, hml, hown, hts⟩ (c_Tx_changes l dC dI cT pT xK xR ch op) (cwV 0 hts (zgV wd_197 wd_198 wd_199 wd_2 wd_200) rfl rfl rfl (by decide +kernel) ⟨Nat.le_of_ble_eq_true rfl, Nat.le_of_ble_eq_true rfl⟩) ⟨zPreR_blind, va_recv hK hP (ci := 2) (q0 := 1) rfl rfl, zp_R hK hE (zSub (X := [(h0, zoPr pL pT pD pB pS so pR), (pT, zoTx xK xR ch op)]) (pl := []) hP [1] rfl)⟩ rfl rfl hl.1 rfl (lv_room (Nat.le_of_ble_eq_true rfl)) d_Pr_count_136 ⟨Nat.le_of_ble_eq_true rfl, Nat.le_of_ble_eq_true rfl⟩) ?_
  exact W.iret hx hb hr (fun t ht hW => ⟨rfl, ht⟩) (fun q h => by cases h) d_Pr_count_139
