set_option maxHeartbeats 4000000 in
set_option maxRecDepth 100000 in
theorem c_Pr_step_bad (l : Launch) (dC : Nat → ClassId) (dI : Nat → Nat → Nat) (cT : Nat → ClassId) (sz : Nat) (h0 : Nat) (pL : Nat) (pT : Nat) (pD : Nat) (pB : Nat) (pS : Nat) (pR : Nat) (so : Bool) (k : Int32) (hno : k < nI 1 ∨ nI 8 < k) : Met l y_Pr_step w_Pr_step ({ frames := 0, cells := 0, slots := 0, locals := 0 } : Room) (zPre (dC, dI) vwCl (zT cT) [.ref h0, .int k] ([(h0, zoPr pL pT pD pB pS so pR)]) sz) (zQ (dC, dI) vwCl (S := Unit) (fun zu => True) (fun zu => some (.int (-1))) (fun zu => [(h0, zoPr pL pT pD pB pS so pR)]) (va_A ([(h0, zoPr pL pT pD pB pS so pR)]) sz)) 0 0 (va_A ([(h0, zoPr pL pT pD pB pS so pR)]) sz) := by
  refine Met.ofW (cc := b_Pr_step) (maxL := 2) (ret := (some .int)) (by decide) rfl ?_
  intro p e s m args below meth c s₁ B hml hv
  obtain ⟨rfl, hsz, hP, hK, hD0, hE⟩ := hv
  have hx := B.exec
  have hb := B.bytes
  have hr := B.returns
  have hts := fun w h => atoms_spec (ws := w_Pr_step) B.pre w (List.mem_cons_of_mem _ h)
  have hown : s.vm.findClass R_Pr = some m.cls := findClass_of_methodNamed B.named
  have hlocks := B.notSynchronized
  subst hsz
  have hD := hD0.self (sz := s.heap.size)
  generalize hAe : va_A ([(h0, zoPr pL pT pD pB pS so pR)]) s.heap.size = A at hD ⊢
  have hA : ∀ q : Nat, s.heap.size ≤ q → A q := fun q h => by rw [← hAe]; exact Or.inr h
  have hS : va_S A s.heap s.heap [] := va_S.rf
  have hl := lv_entry ([.ref h0, .int k]) (n := 2) (Nat.le_of_ble_eq_true rfl)
  rw [lg_entry_eq]
  generalize (lg_sl ([.ref h0, .int k]) ++ List.replicate (2 - (lg_sl ([.ref h0, .int k])).length) Slot.unset).toArray = ls at hl ⊢
  have hl : lv_has ls 2 [(0, .ref h0), (1, .int k)] := hl
  refine lv_iload_n hx hb d_Pr_step_0 rfl (lv_at hl 1 rfl) ?_
  refine lv_iconst (v := (nI 1)) hx hb d_Pr_step_1 (by decide) ?_
  refine lv_icmp_lt (tgt := 11) hx hb d_Pr_step_2 (by decide) (fun c_2 => ?_) (fun c_2 => ?_)
  · refine lv_iconst (v := (-1)) hx hb d_Pr_step_11 (by decide) ?_
    have hP9 := hP.sub (ws' := [(h0, zoPr pL pT pD pB pS so pR)]) [0] rfl
    have hD9 := hD.sub (ws' := [(h0, zoPr pL pT pD pB pS so pR)]) [0] (by decide) rfl
    exact W.iret hx hb hr (fun t ht hW => ⟨⟨(), trivial, rfl, by rw [ht]; exact hP9, hD9⟩, hS.F ht⟩) hS.2.2 d_Pr_step_12
  · refine lv_iload_n hx hb d_Pr_step_5 rfl (lv_at hl 1 rfl) ?_
    refine lv_bipush (v := (nI 8)) hx hb d_Pr_step_6 (by decide) ?_
    refine lv_icmp_le (tgt := 13) hx hb d_Pr_step_8 (by decide) (fun c_8 => ?_) (fun c_8 => ?_)
    · exact absurd hno (fun q => q.elim c_2 (fun q2 => absurd c_8 (Int32.not_le.mpr q2)))
    · refine lv_iconst (v := (-1)) hx hb d_Pr_step_11 (by decide) ?_
      have hP9 := hP.sub (ws' := [(h0, zoPr pL pT pD pB pS so pR)]) [0] rfl
      have hD9 := hD.sub (ws' := [(h0, zoPr pL pT pD pB pS so pR)]) [0] (by decide) rfl
      exact W.iret hx hb hr (fun t ht hW => ⟨⟨(), trivial, rfl, by rw [ht]; exact hP9, hD9⟩, hS.F ht⟩) hS.2.2 d_Pr_step_12
set_option maxHeartbeats 4000000 in
set_option maxRecDepth 100000 in
theorem c_Pr_step_idle (l : Launch) (dC : Nat → ClassId) (dI : Nat → Nat → Nat) (cT : Nat → ClassId) (sz : Nat) (h0 : Nat) (pL : Nat) (pT : Nat) (pD : Nat) (pB : Nat) (pS : Nat) (pR : Nat) (so : Bool) (bQ : Nat) (aL : Nat) (oK : Nat) (fK : Nat) (k : Nat) (hk1 : 1 ≤ k) (hk8 : k ≤ 8) : Met l y_Pr_step w_Pr_step ({ frames := 1, cells := 0, slots := 0, locals := 25 } : Room) (zPre (dC, dI) vwCl (zT cT) [.ref h0, .int (nI k)] ([(h0, zoPr pL pT pD pB pS so pR), (pB, zoBs bQ aL .null oK fK)]) sz) (zQ (dC, dI) vwCl (S := Unit) (fun zu => True) (fun zu => some (.int (-1))) (fun zu => [(h0, zoPr pL pT pD pB pS so pR), (pB, zoBs bQ aL .null oK fK)]) (va_A ([(h0, zoPr pL pT pD pB pS so pR), (pB, zoBs bQ aL .null oK fK)]) sz)) 0 0 (va_A ([(h0, zoPr pL pT pD pB pS so pR), (pB, zoBs bQ aL .null oK fK)]) sz) := by
  refine Met.ofW (cc := b_Pr_step) (maxL := 2) (ret := (some .int)) (by decide) rfl ?_
  intro p e s m args below meth c s₁ B hml hv
  obtain ⟨rfl, hsz, hP, hK, hD0, hE⟩ := hv
  have hx := B.exec
  have hb := B.bytes
  have hr := B.returns
  have hts := fun w h => atoms_spec (ws := w_Pr_step) B.pre w (List.mem_cons_of_mem _ h)
  have hown : s.vm.findClass R_Pr = some m.cls := findClass_of_methodNamed B.named
  have hlocks := B.notSynchronized
  subst hsz
  have hD := hD0.self (sz := s.heap.size)
  generalize hAe : va_A ([(h0, zoPr pL pT pD pB pS so pR), (pB, zoBs bQ aL .null oK fK)]) s.heap.size = A at hD ⊢
  have hA : ∀ q : Nat, s.heap.size ≤ q → A q := fun q h => by rw [← hAe]; exact Or.inr h
  have hS : va_S A s.heap s.heap [] := va_S.rf
  have hl := lv_entry ([.ref h0, .int (nI k)]) (n := 2) (Nat.le_of_ble_eq_true rfl)
  rw [lg_entry_eq]
  generalize (lg_sl ([.ref h0, .int (nI k)]) ++ List.replicate (2 - (lg_sl ([.ref h0, .int (nI k)])).length) Slot.unset).toArray = ls at hl ⊢
  have hl : lv_has ls 2 [(0, .ref h0), (1, .int (nI k))] := hl
  refine lv_iload_n hx hb d_Pr_step_0 rfl (lv_at hl 1 rfl) ?_
  refine lv_iconst (v := (nI 1)) hx hb d_Pr_step_1 (by decide) ?_
  refine zn_icmp_lt (tgt := 11) hx hb (a := k) (b := 1) (by omega) (by omega) d_Pr_step_2 (by decide) (fun c_2 => absurd c_2 (by omega)) (fun c_2 => ?_)
  refine lv_iload_n hx hb d_Pr_step_5 rfl (lv_at hl 1 rfl) ?_
  refine lv_bipush (v := (nI 8)) hx hb d_Pr_step_6 (by decide) ?_
  refine zn_icmp_le (tgt := 13) hx hb (a := k) (b := 8) (by omega) (by omega) d_Pr_step_8 (by decide) (fun c_8 => ?_) (fun c_8 => absurd c_8 (by omega))
  refine lv_aload_n hx hb d_Pr_step_13 rfl (lv_at hl 0 rfl) ?_
  refine va_get (D := (dC, dI)) (ci := 0) (v := .ref pB) (C := R_Pr) (T := F_Pr) (N := 7) hx hb hts i_Pr hown hK hP 0 rfl rfl 3 (by decide) (hts _ wd_155) (fun _ h9 => h9) rfl d_Pr_step_14 ?_
  refine lv_iload_n hx hb d_Pr_step_17 rfl (lv_at hl 1 rfl) ?_
  refine lv_aload_n hx hb d_Pr_step_18 rfl (lv_at hl 0 rfl) ?_
  refine va_get (D := (dC, dI)) (ci := 0) (v := .ref pL) (C := R_Pr) (T := F_Pr) (N := 7) hx hb hts i_Pr hown hK hP 0 rfl rfl 0 (by decide) (hts _ wd_152) (fun _ h9 => h9) rfl d_Pr_step_19 ?_
  refine zw_Q (X := [(h0, zoPr pL pT pD pB pS so pR), (pB, zoBs bQ aL .null oK fK)]) (pl := []) (va_runV (As := [.int (nI k), .ref pL]) (rest := []) ⟨hx, hb, hml, hown, hts⟩ (c_Bs_visit_idle l dC dI cT s.heap.size pB bQ aL oK fK k pL) (cwV 2 hts (zgV wd_337 wd_338 wd_339 wd_7 wd_340) rfl rfl rfl (by decide +kernel) ⟨Nat.le_of_ble_eq_true rfl, Nat.le_of_ble_eq_true rfl⟩) ⟨zPre_blind, va_recv hK hP (ci := 5) (q0 := 1) rfl rfl, zp_Q (X := [(h0, zoPr pL pT pD pB pS so pR), (pB, zoBs bQ aL .null oK fK)]) (pl := []) hK hE hP hD [1] (by decide) rfl⟩ rfl rfl hl.1 rfl (lv_room (Nat.le_of_ble_eq_true rfl)) d_Pr_step_22 ⟨Nat.le_of_ble_eq_true rfl, Nat.le_of_ble_eq_true rfl⟩) hP hD hS hA [1] [0] rfl (wr := [(h0, zoPr pL pT pD pB pS so pR)]) rfl (by decide) (by decide) (fun zu => [.int (-1)]) (fun _ => rfl) (fun zu H locs hφ hP hD hS => ?_)
  have hP : va_P (dC, dI) vwCl ([(h0, zoPr pL pT pD pB pS so pR), (pB, zoBs bQ aL .null oK fK)]) H := hP
  have hD : va_D A ([(h0, zoPr pL pT pD pB pS so pR), (pB, zoBs bQ aL .null oK fK)]) := hD
  have hP9 := hP.sub (ws' := [(h0, zoPr pL pT pD pB pS so pR), (pB, zoBs bQ aL .null oK fK)]) [0, 1] rfl
  have hD9 := hD.sub (ws' := [(h0, zoPr pL pT pD pB pS so pR), (pB, zoBs bQ aL .null oK fK)]) [0, 1] (by decide) rfl
  exact W.iret hx hb hr (fun t ht hW => ⟨⟨(), trivial, rfl, by rw [ht]; exact hP9, hD9⟩, hS.F ht⟩) hS.2.2 d_Pr_step_25
set_option maxHeartbeats 4000000 in
set_option maxRecDepth 100000 in
theorem c_Pr_step_part (l : Launch) (dC : Nat → ClassId) (dI : Nat → Nat → Nat) (cT : Nat → ClassId) (sz : Nat) (h0 : Nat) (pL : Nat) (pT : Nat) (pD : Nat) (pB : Nat) (pS : Nat) (pR : Nat) (so : Bool) (bQ : Nat) (aL : Nat) (oK : Nat) (fK : Nat) (ae : Nat) (n : Nat) (am : Nat) (cap : Nat) (pl : va_W) (ea : Nat → Option Nat) (ba : Nat → Nat) (ia : Nat → Nat) (bF : Nat → Bool) (bS : Nat → Nat) (bE : Nat → Nat) (bM : Nat → Nat) (bV : Nat → Nat) (im : Nat → Nat → Int32) (rB : Nat) (cS : Nat) (bA : Nat) (cE : Nat) (cM : Nat) (cV : Nat) (cF : Bool) (img : Nat → Int32) (lS : Nat) (aK : Nat) (aC : Nat) (aT : Nat) (aP : Nat) (lL : Nat) (lC : Nat) (lA : Nat) (lP : Nat) (pn : Nat → Nat) (k : Nat) (hk1 : 1 ≤ k) (hk8 : k ≤ 8) (hv : cV ≤ 7) (hM : cM ≤ 8) (hpn : ∀ j, j < 8 → pn j ≤ 1000) (hS0 : (if n = 0 then 0 else bS (n - 1)) ≤ 1000) (hn : n ≤ 257) (hpo : zPo cT pl n ae cap ea ba ia bF bS bE bM bV im) (hpa : cV + k < 8) : Met l y_Pr_step w_Pr_step ({ frames := 6, cells := 0, slots := 0, locals := 130 } : Room) (zPre (dC, dI) vwCl (zT cT) [.ref h0, .int (nI k)] ([(h0, zoPr pL pT pD pB pS so pR), (pB, zoBs bQ aL (.ref rB) oK fK), (aL, zoAl ae n am), (rB, bkE cF cS bA cE cM cV), (bA, zaI (cT 0) 8 img), (pL, zoLg lS aK aC aT aP lL lC lA lP), (aP, zaN (cT 0) 8 pn)] ++ pl) sz) (zQ (dC, dI) vwCl (S := Unit) (fun zu => True) (fun zu => some (.int (nI (8 - (cV + k))))) (fun zu => [(h0, zoPr pL pT pD pB pS so pR), (pB, zoBs bQ aL (.ref rB) oK fK), (aL, zoAl ae n am), (rB, bkE cF cS bA cE (ztc cM pn cV (if n = 0 then 0 else bS (n - 1)) cF (k)) (cV + k)), (bA, zaI (cT 0) 8 (zti img pn cV (if n = 0 then 0 else bS (n - 1)) cF (k))), (pL, zoLg lS aK aC aT aP lL lC lA lP), (aP, zaN (cT 0) 8 pn)] ++ pl) (va_A ([(h0, zoPr pL pT pD pB pS so pR), (pB, zoBs bQ aL (.ref rB) oK fK), (aL, zoAl ae n am), (rB, bkE cF cS bA cE cM cV), (bA, zaI (cT 0) 8 img), (pL, zoLg lS aK aC aT aP lL lC lA lP), (aP, zaN (cT 0) 8 pn)] ++ pl) sz)) 0 0 (va_A ([(h0, zoPr pL pT pD pB pS so pR), (pB, zoBs bQ aL (.ref rB) oK fK), (aL, zoAl ae n am), (rB, bkE cF cS bA cE cM cV), (bA, zaI (cT 0) 8 img), (pL, zoLg lS aK aC aT aP lL lC lA lP), (aP, zaN (cT 0) 8 pn)] ++ pl) sz) := by
  refine Met.ofW (cc := b_Pr_step) (maxL := 2) (ret := (some .int)) (by decide) rfl ?_
  intro p e s m args below meth c s₁ B hml hv
  obtain ⟨rfl, hsz, hP, hK, hD0, hE⟩ := hv
  have hx := B.exec
  have hb := B.bytes
  have hr := B.returns
  have hts := fun w h => atoms_spec (ws := w_Pr_step) B.pre w (List.mem_cons_of_mem _ h)
  have hown : s.vm.findClass R_Pr = some m.cls := findClass_of_methodNamed B.named
  have hlocks := B.notSynchronized
  subst hsz
  have hD := hD0.self (sz := s.heap.size)
  generalize hAe : va_A ([(h0, zoPr pL pT pD pB pS so pR), (pB, zoBs bQ aL (.ref rB) oK fK), (aL, zoAl ae n am), (rB, bkE cF cS bA cE cM cV), (bA, zaI (cT 0) 8 img), (pL, zoLg lS aK aC aT aP lL lC lA lP), (aP, zaN (cT 0) 8 pn)] ++ pl) s.heap.size = A at hD ⊢
  have hA : ∀ q : Nat, s.heap.size ≤ q → A q := fun q h => by rw [← hAe]; exact Or.inr h
  have hS : va_S A s.heap s.heap [] := va_S.rf
  have hl := lv_entry ([.ref h0, .int (nI k)]) (n := 2) (Nat.le_of_ble_eq_true rfl)
  rw [lg_entry_eq]
  generalize (lg_sl ([.ref h0, .int (nI k)]) ++ List.replicate (2 - (lg_sl ([.ref h0, .int (nI k)])).length) Slot.unset).toArray = ls at hl ⊢
  have hl : lv_has ls 2 [(0, .ref h0), (1, .int (nI k))] := hl
  refine lv_iload_n hx hb d_Pr_step_0 rfl (lv_at hl 1 rfl) ?_
  refine lv_iconst (v := (nI 1)) hx hb d_Pr_step_1 (by decide) ?_
  refine zn_icmp_lt (tgt := 11) hx hb (a := k) (b := 1) (by omega) (by omega) d_Pr_step_2 (by decide) (fun c_2 => absurd c_2 (by omega)) (fun c_2 => ?_)
  refine lv_iload_n hx hb d_Pr_step_5 rfl (lv_at hl 1 rfl) ?_
  refine lv_bipush (v := (nI 8)) hx hb d_Pr_step_6 (by decide) ?_
  refine zn_icmp_le (tgt := 13) hx hb (a := k) (b := 8) (by omega) (by omega) d_Pr_step_8 (by decide) (fun c_8 => ?_) (fun c_8 => absurd c_8 (by omega))
  refine lv_aload_n hx hb d_Pr_step_13 rfl (lv_at hl 0 rfl) ?_
  refine va_get (D := (dC, dI)) (ci := 0) (v := .ref pB) (C := R_Pr) (T := F_Pr) (N := 7) hx hb hts i_Pr hown hK hP 0 rfl rfl 3 (by decide) (hts _ wd_155) (fun _ h9 => h9) rfl d_Pr_step_14 ?_
  refine lv_iload_n hx hb d_Pr_step_17 rfl (lv_at hl 1 rfl) ?_
  refine lv_aload_n hx hb d_Pr_step_18 rfl (lv_at hl 0 rfl) ?_
  refine va_get (D := (dC, dI)) (ci := 0) (v := .ref pL) (C := R_Pr) (T := F_Pr) (N := 7) hx hb hts i_Pr hown hK hP 0 rfl rfl 0 (by decide) (hts _ wd_152) (fun _ h9 => h9) rfl d_Pr_step_19 ?_
  refine zw_P (X := [(h0, zoPr pL pT pD pB pS so pR), (pB, zoBs bQ aL (.ref rB) oK fK), (aL, zoAl ae n am), (rB, bkE cF cS bA cE cM cV), (bA, zaI (cT 0) 8 img), (pL, zoLg lS aK aC aT aP lL lC lA lP), (aP, zaN (cT 0) 8 pn)]) (pl := pl) (va_runV (As := [.int (nI k), .ref pL]) (rest := []) ⟨hx, hb, hml, hown, hts⟩ (c_Bs_visit_part l dC dI cT s.heap.size pB bQ aL oK fK ae n am cap pl ea ba ia bF bS bE bM bV im rB cS bA cE cM cV cF img pL lS aK aC aT aP lL lC lA lP pn k (by first | omega | assumption) (by first | omega | assumption) (by first | omega | assumption) (by first | omega | assumption) (by first | omega | assumption) (by first | omega | assumption) (by first | omega | assumption) (by first | omega | assumption) (by first | omega | assumption)) (cwV 2 hts (zgV wd_337 wd_338 wd_339 wd_7 wd_340) rfl rfl rfl (by decide +kernel) ⟨Nat.le_of_ble_eq_true rfl, Nat.le_of_ble_eq_true rfl⟩) ⟨zPre_blind, va_recv hK hP (ci := 5) (q0 := 1) rfl rfl, zp_P (X := [(h0, zoPr pL pT pD pB pS so pR), (pB, zoBs bQ aL (.ref rB) oK fK), (aL, zoAl ae n am), (rB, bkE cF cS bA cE cM cV), (bA, zaI (cT 0) 8 img), (pL, zoLg lS aK aC aT aP lL lC lA lP), (aP, zaN (cT 0) 8 pn)]) (pl := pl) hK hE hP hD [1, 2, 3, 4, 5, 6] (by decide) rfl⟩ rfl rfl hl.1 rfl (lv_room (Nat.le_of_ble_eq_true rfl)) d_Pr_step_22 ⟨Nat.le_of_ble_eq_true rfl, Nat.le_of_ble_eq_true rfl⟩) hP hD hS hA [1, 2, 3, 4, 5, 6] [0] rfl (wr := [(h0, zoPr pL pT pD pB pS so pR)]) rfl (by decide) (by decide) (fun zu => [.int (nI (8 - (cV + k)))]) (fun _ => rfl) (fun zu H locs hφ hP hD hS => ?_)
  have hP : va_P (dC, dI) vwCl ([(h0, zoPr pL pT pD pB pS so pR), (pB, zoBs bQ aL (.ref rB) oK fK), (aL, zoAl ae n am), (rB, bkE cF cS bA cE (ztc cM pn cV (if n = 0 then 0 else bS (n - 1)) cF (k)) (cV + k)), (bA, zaI (cT 0) 8 (zti img pn cV (if n = 0 then 0 else bS (n - 1)) cF (k))), (pL, zoLg lS aK aC aT aP lL lC lA lP), (aP, zaN (cT 0) 8 pn)] ++ pl) H := hP
  have hD : va_D A ([(h0, zoPr pL pT pD pB pS so pR), (pB, zoBs bQ aL (.ref rB) oK fK), (aL, zoAl ae n am), (rB, bkE cF cS bA cE (ztc cM pn cV (if n = 0 then 0 else bS (n - 1)) cF (k)) (cV + k)), (bA, zaI (cT 0) 8 (zti img pn cV (if n = 0 then 0 else bS (n - 1)) cF (k))), (pL, zoLg lS aK aC aT aP lL lC lA lP), (aP, zaN (cT 0) 8 pn)] ++ pl) := hD
  have hP9 := va_P.part (cx := [(h0, zoPr pL pT pD pB pS so pR), (pB, zoBs bQ aL (.ref rB) oK fK), (aL, zoAl ae n am), (rB, bkE cF cS bA cE (ztc cM pn cV (if n = 0 then 0 else bS (n - 1)) cF (k)) (cV + k)), (bA, zaI (cT 0) 8 (zti img pn cV (if n = 0 then 0 else bS (n - 1)) cF (k))), (pL, zoLg lS aK aC aT aP lL lC lA lP), (aP, zaN (cT 0) 8 pn)]) hP [0, 1, 2, 3, 4, 5, 6] rfl
  have hD9 := va_D.part (cx := [(h0, zoPr pL pT pD pB pS so pR), (pB, zoBs bQ aL (.ref rB) oK fK), (aL, zoAl ae n am), (rB, bkE cF cS bA cE (ztc cM pn cV (if n = 0 then 0 else bS (n - 1)) cF (k)) (cV + k)), (bA, zaI (cT 0) 8 (zti img pn cV (if n = 0 then 0 else bS (n - 1)) cF (k))), (pL, zoLg lS aK aC aT aP lL lC lA lP), (aP, zaN (cT 0) 8 pn)]) hD [0, 1, 2, 3, 4, 5, 6] (by decide) rfl
  exact W.iret hx hb hr (fun t ht hW => ⟨⟨(), trivial, rfl, by rw [ht]; exact hP9, hD9⟩, hS.F ht⟩) hS.2.2 d_Pr_step_25
set_option maxHeartbeats 4000000 in
set_option maxRecDepth 100000 in
theorem c_Pr_step_in_keep (l : Launch) (dC : Nat → ClassId) (dI : Nat → Nat → Nat) (cT : Nat → ClassId) (sz : Nat) (tE : Nat) (mi : Nat) (h0 : Nat) (pL : Nat) (pT : Nat) (pD : Nat) (pB : Nat) (pS : Nat) (pR : Nat) (so : Bool) (bQ : Nat) (aL : Nat) (oK : Nat) (fK : Nat) (ae : Nat) (n : Nat) (am : Nat) (cap : Nat) (ea : Nat → Option Nat) (ba : Nat → Nat) (ia : Nat → Nat) (bF : Nat → Bool) (bS : Nat → Nat) (bE : Nat → Nat) (bM : Nat → Nat) (bV : Nat → Nat) (im : Nat → Nat → Int32) (rB : Nat) (cS : Nat) (bA : Nat) (cE : Nat) (cM : Nat) (cV : Nat) (cF : Bool) (img : Nat → Int32) (lS : Nat) (aK : Nat) (aC : Nat) (aT : Nat) (aP : Nat) (lL : Nat) (lC : Nat) (lA : Nat) (lP : Nat) (pn : Nat → Nat) (k : Nat) (plr : va_W) (hk1 : 1 ≤ k) (hk8 : k ≤ 8) (hv : cV ≤ 7) (hM : cM ≤ 8) (hpn : ∀ j, j < 8 → pn j ≤ 1000) (hS0 : (if n = 0 then 0 else bS (n - 1)) ≤ 1000) (hn : n ≤ 257) (hL : lL ≤ 800) (ham : am < 2 ^ 30) (hf2 : fK < 1000) (hk : n < cap) (hc2 : cap ≤ 1000) (hpo : zPo cT ([(ae, zaQ (cT 3) cap ea)] ++ plr) n ae cap ea ba ia bF bS bE bM bV im) (hb9 : bQ ≤ 3) (hkeep : (if cF = true then fK + 1 else fK) ≤ bQ) (hpa : 8 ≤ cV + k) : Met l y_Pr_step w_Pr_step ({ frames := 6, cells := 1, slots := 400, locals := 130 } : Room) (zPreS (dC, dI) vwCl (zT cT) [.ref h0, .int (nI k)] ([(h0, zoPr pL pT pD pB pS so pR), (pB, zoBs bQ aL (.ref rB) oK fK), (aL, zoAl ae n am), (rB, bkE cF cS bA cE cM cV), (bA, zaI (cT 0) 8 img), (pL, zoLg lS aK aC aT aP lL lC lA lP), (aP, zaN (cT 0) 8 pn)] ++ ([(ae, zaQ (cT 3) cap ea)] ++ plr)) sz tE mi) (zQ (dC, dI) vwCl (S := Unit) (fun zu => True) (fun zu => some (.int (nI 0))) (fun zu => [(h0, zoPr pL pT pD pB pS so pR), (pB, zoBs bQ aL .null oK (if cF = true then fK + 1 else fK)), (aL, zoAl ae (n + 1) (am + 1)), (pL, zoLg lS aK aC aT aP lL lC lA lP), (aP, zaN (cT 0) 8 pn)] ++ ([(ae, zaQ (cT 3) cap (va_up ea n (some rB))), (rB, bkE cF cS bA lL (ztc cM pn cV (if n = 0 then 0 else bS (n - 1)) cF (8 - cV)) 8), (bA, zaI (cT 0) 8 (zti img pn cV (if n = 0 then 0 else bS (n - 1)) cF (8 - cV)))] ++ plr)) (va_A ([(h0, zoPr pL pT pD pB pS so pR), (pB, zoBs bQ aL (.ref rB) oK fK), (aL, zoAl ae n am), (rB, bkE cF cS bA cE cM cV), (bA, zaI (cT 0) 8 img), (pL, zoLg lS aK aC aT aP lL lC lA lP), (aP, zaN (cT 0) 8 pn)] ++ ([(ae, zaQ (cT 3) cap ea)] ++ plr)) sz)) 1 400 (va_A ([(h0, zoPr pL pT pD pB pS so pR), (pB, zoBs bQ aL (.ref rB) oK fK), (aL, zoAl ae n am), (rB, bkE cF cS bA cE cM cV), (bA, zaI (cT 0) 8 img), (pL, zoLg lS aK aC aT aP lL lC lA lP), (aP, zaN (cT 0) 8 pn)] ++ ([(ae, zaQ (cT 3) cap ea)] ++ plr)) sz) := by
  refine Met.ofW (cc := b_Pr_step) (maxL := 2) (ret := (some .int)) (by decide) rfl ?_
  intro p e s m args below meth c s₁ B hml hv
  obtain ⟨⟨rfl, hsz, hP, hK, hD0, hE⟩, hZ⟩ := hv
  have hx := B.exec
  have hb := B.bytes
  have hr := B.returns
  have hts := fun w h => atoms_spec (ws := w_Pr_step) B.pre w (List.mem_cons_of_mem _ h)
  have hown : s.vm.findClass R_Pr = some m.cls := findClass_of_methodNamed B.named
  have hlocks := B.notSynchronized
  subst hsz
  have hD := hD0.self (sz := s.heap.size)
  generalize hAe : va_A ([(h0, zoPr pL pT pD pB pS so pR), (pB, zoBs bQ aL (.ref rB) oK fK), (aL, zoAl ae n am), (rB, bkE cF cS bA cE cM cV), (bA, zaI (cT 0) 8 img), (pL, zoLg lS aK aC aT aP lL lC lA lP), (aP, zaN (cT 0) 8 pn)] ++ ([(ae, zaQ (cT 3) cap ea)] ++ plr)) s.heap.size = A at hD hZ ⊢
  have hA : ∀ q : Nat, s.heap.size ≤ q → A q := fun q h => by rw [← hAe]; exact Or.inr h
  have hS : va_S A s.heap s.heap [] := va_S.rf
  have hl := lv_entry ([.ref h0, .int (nI k)]) (n := 2) (Nat.le_of_ble_eq_true rfl)
  rw [lg_entry_eq]
  generalize (lg_sl ([.ref h0, .int (nI k)]) ++ List.replicate (2 - (lg_sl ([.ref h0, .int (nI k)])).length) Slot.unset).toArray = ls at hl ⊢
  have hl : lv_has ls 2 [(0, .ref h0), (1, .int (nI k))] := hl
  refine lv_iload_n hx hb d_Pr_step_0 rfl (lv_at hl 1 rfl) ?_
  refine lv_iconst (v := (nI 1)) hx hb d_Pr_step_1 (by decide) ?_
  refine zn_icmp_lt (tgt := 11) hx hb (a := k) (b := 1) (by omega) (by omega) d_Pr_step_2 (by decide) (fun c_2 => absurd c_2 (by omega)) (fun c_2 => ?_)
  refine lv_iload_n hx hb d_Pr_step_5 rfl (lv_at hl 1 rfl) ?_
  refine lv_bipush (v := (nI 8)) hx hb d_Pr_step_6 (by decide) ?_
  refine zn_icmp_le (tgt := 13) hx hb (a := k) (b := 8) (by omega) (by omega) d_Pr_step_8 (by decide) (fun c_8 => ?_) (fun c_8 => absurd c_8 (by omega))
  refine lv_aload_n hx hb d_Pr_step_13 rfl (lv_at hl 0 rfl) ?_
  refine va_get (D := (dC, dI)) (ci := 0) (v := .ref pB) (C := R_Pr) (T := F_Pr) (N := 7) hx hb hts i_Pr hown hK hP 0 rfl rfl 3 (by decide) (hts _ wd_155) (fun _ h9 => h9) rfl d_Pr_step_14 ?_
  refine lv_iload_n hx hb d_Pr_step_17 rfl (lv_at hl 1 rfl) ?_
  refine lv_aload_n hx hb d_Pr_step_18 rfl (lv_at hl 0 rfl) ?_
  refine va_get (D := (dC, dI)) (ci := 0) (v := .ref pL) (C := R_Pr) (T := F_Pr) (N := 7) hx hb hts i_Pr hown hK hP 0 rfl rfl 0 (by decide) (hts _ wd_152) (fun _ h9 => h9) rfl d_Pr_step_19 ?_
  refine zw_P (X := [(h0, zoPr pL pT pD pB pS so pR), (pB, zoBs bQ aL (.ref rB) oK fK), (aL, zoAl ae n am), (rB, bkE cF cS bA cE cM cV), (bA, zaI (cT 0) 8 img), (pL, zoLg lS aK aC aT aP lL lC lA lP), (aP, zaN (cT 0) 8 pn)]) (pl := [(ae, zaQ (cT 3) cap ea)] ++ plr) (va_runV (As := [.int (nI k), .ref pL]) (rest := []) ⟨hx, hb, hml, hown, hts⟩ (c_Bs_visit_in_keep l dC dI cT s.heap.size tE mi pB bQ aL oK fK ae n am cap ea ba ia bF bS bE bM bV im rB cS bA cE cM cV cF img pL lS aK aC aT aP lL lC lA lP pn k plr (by first | omega | assumption) (by first | omega | assumption) (by first | omega | assumption) (by first | omega | assumption) (by first | omega | assumption) (by first | omega | assumption) (by first | omega | assumption) (by first | omega | assumption) (by first | omega | assumption) (by first | omega | assumption) (by first | omega | assumption) (by first | omega | assumption) (by first | omega | assumption) (by first | omega | assumption) (by first | omega | assumption) (by first | omega | assumption)) (cwV 2 hts (zgV wd_337 wd_338 wd_339 wd_7 wd_340) rfl rfl rfl (by decide +kernel) ⟨Nat.le_of_ble_eq_true rfl, Nat.le_of_ble_eq_true rfl⟩) ⟨zPreS_blind, va_recv hK hP (ci := 5) (q0 := 1) rfl rfl, zp_PS (X := [(h0, zoPr pL pT pD pB pS so pR), (pB, zoBs bQ aL (.ref rB) oK fK), (aL, zoAl ae n am), (rB, bkE cF cS bA cE cM cV), (bA, zaI (cT 0) 8 img), (pL, zoLg lS aK aC aT aP lL lC lA lP), (aP, zaN (cT 0) 8 pn)]) (pl := [(ae, zaQ (cT 3) cap ea)] ++ plr) hK hE hZ hS hA hP hD [1, 2, 3, 4, 5, 6] (by decide) rfl⟩ rfl rfl hl.1 rfl (lv_room (Nat.le_of_ble_eq_true rfl)) d_Pr_step_22 ⟨Nat.le_of_ble_eq_true rfl, Nat.le_of_ble_eq_true rfl⟩) hP hD hS hA [1, 2, 3, 4, 5, 6] [0] rfl (wr := [(h0, zoPr pL pT pD pB pS so pR)]) rfl (by decide) (by decide) (fun zu => [.int (nI 0)]) (fun _ => rfl) (fun zu H locs hφ hP hD hS => ?_)
  have hP : va_P (dC, dI) vwCl ([(h0, zoPr pL pT pD pB pS so pR), (pB, zoBs bQ aL .null oK (if cF = true then fK + 1 else fK)), (aL, zoAl ae (n + 1) (am + 1)), (pL, zoLg lS aK aC aT aP lL lC lA lP), (aP, zaN (cT 0) 8 pn)] ++ ([(ae, zaQ (cT 3) cap (va_up ea n (some rB))), (rB, bkE cF cS bA lL (ztc cM pn cV (if n = 0 then 0 else bS (n - 1)) cF (8 - cV)) 8), (bA, zaI (cT 0) 8 (zti img pn cV (if n = 0 then 0 else bS (n - 1)) cF (8 - cV)))] ++ plr)) H := hP
  have hD : va_D A ([(h0, zoPr pL pT pD pB pS so pR), (pB, zoBs bQ aL .null oK (if cF = true then fK + 1 else fK)), (aL, zoAl ae (n + 1) (am + 1)), (pL, zoLg lS aK aC aT aP lL lC lA lP), (aP, zaN (cT 0) 8 pn)] ++ ([(ae, zaQ (cT 3) cap (va_up ea n (some rB))), (rB, bkE cF cS bA lL (ztc cM pn cV (if n = 0 then 0 else bS (n - 1)) cF (8 - cV)) 8), (bA, zaI (cT 0) 8 (zti img pn cV (if n = 0 then 0 else bS (n - 1)) cF (8 - cV)))] ++ plr)) := hD
  refine W.widen (k := 1) (n := 400) (by first | omega | exact Nat.le_of_ble_eq_true rfl) (by first | omega | exact Nat.le_of_ble_eq_true rfl) ?_
  have hP9 := va_P.part (cx := [(h0, zoPr pL pT pD pB pS so pR), (pB, zoBs bQ aL .null oK (if cF = true then fK + 1 else fK)), (aL, zoAl ae (n + 1) (am + 1)), (pL, zoLg lS aK aC aT aP lL lC lA lP), (aP, zaN (cT 0) 8 pn)]) hP [0, 1, 2, 3, 4] rfl
  have hD9 := va_D.part (cx := [(h0, zoPr pL pT pD pB pS so pR), (pB, zoBs bQ aL .null oK (if cF = true then fK + 1 else fK)), (aL, zoAl ae (n + 1) (am + 1)), (pL, zoLg lS aK aC aT aP lL lC lA lP), (aP, zaN (cT 0) 8 pn)]) hD [0, 1, 2, 3, 4] (by decide) rfl
  exact W.iret hx hb hr (fun t ht hW => ⟨⟨(), trivial, rfl, by rw [ht]; exact hP9, hD9⟩, hS.F ht⟩) hS.2.2 d_Pr_step_25
set_option maxHeartbeats 4000000 in
set_option maxRecDepth 100000 in
theorem c_Pr_step_in_drop (l : Launch) (dC : Nat → ClassId) (dI : Nat → Nat → Nat) (cT : Nat → ClassId) (sz : Nat) (tE : Nat) (mi : Nat) (h0 : Nat) (pL : Nat) (pT : Nat) (pD : Nat) (pB : Nat) (pS : Nat) (pR : Nat) (so : Bool) (bQ : Nat) (aL : Nat) (oK : Nat) (fK : Nat) (ae : Nat) (n : Nat) (am : Nat) (cap : Nat) (ea : Nat → Option Nat) (ba : Nat → Nat) (ia : Nat → Nat) (bF : Nat → Bool) (bS : Nat → Nat) (bE : Nat → Nat) (bM : Nat → Nat) (bV : Nat → Nat) (im : Nat → Nat → Int32) (rB : Nat) (cS : Nat) (bA : Nat) (cE : Nat) (cM : Nat) (cV : Nat) (cF : Bool) (img : Nat → Int32) (lS : Nat) (aK : Nat) (aC : Nat) (aT : Nat) (aP : Nat) (lL : Nat) (lC : Nat) (lA : Nat) (lP : Nat) (pn : Nat → Nat) (k : Nat) (plr : va_W) (r : Nat) (hk1 : 1 ≤ k) (hk8 : k ≤ 8) (hv : cV ≤ 7) (hM : cM ≤ 8) (hpn : ∀ j, j < 8 → pn j ≤ 1000) (hS0 : (if n = 0 then 0 else bS (n - 1)) ≤ 1000) (hn : n ≤ 257) (hL : lL ≤ 800) (ham : am < 2 ^ 30) (hf2 : fK < 1000) (hk : n < cap) (hc2 : cap ≤ 1000) (hpo : zPo cT ([(ae, zaQ (cT 3) cap ea)] ++ plr) n ae cap ea ba ia bF bS bE bM bV im) (hn9 : n ≤ 256) (hmp : ∀ i, i < n → (ba i, bkE (bF i) (bS i) (ia i) (bE i) (bM i) (bV i)) ∈ plr ∧ (ia i, Sum.inl (cT 0, 8, .inl (im i))) ∈ plr) (hcf : cF = true) (hb9 : bQ ≤ 3) (hdr : bQ < fK + 1) (ho1 : 1 ≤ oK) (hr1 : oK + 1 ≤ r) (hr2 : r ≤ n + 1) (hr3 : ∀ b, oK + 1 ≤ b → b < r → va_up bF n cF (b - 1) = false) (hr4 : r < n + 1 → va_up bF n cF (r - 1) = true) (hst : va_up bS n cS (r - 1) ≤ 1000) (h0s : 0 < lS) (hs : lS ≤ 8) (hA : lA < 2 ^ 30) (hPu : lP < 2 ^ 30) (hpa : 8 ≤ cV + k) : Met l y_Pr_step w_Pr_step ({ frames := 7, cells := 1, slots := 400, locals := 152 } : Room) (zPreS (dC, dI) vwCl (zT cT) [.ref h0, .int (nI k)] ([(h0, zoPr pL pT pD pB pS so pR), (pB, zoBs bQ aL (.ref rB) oK fK), (aL, zoAl ae n am), (rB, bkE cF cS bA cE cM cV), (bA, zaI (cT 0) 8 img), (pL, zoLg lS aK aC aT aP lL lC lA lP), (aP, zaN (cT 0) 8 pn)] ++ ([(ae, zaQ (cT 3) cap ea)] ++ plr)) sz tE mi) (zQ (dC, dI) vwCl (S := Unit) (fun zu => True) (fun zu => some (.int (nI 0))) (fun zu => [(h0, zoPr pL pT pD pB pS so pR), (pB, zoBs bQ aL .null r (fK + 1 - 1)), (aL, zoAl ae (n + 1) (am + 1)), (pL, zoLg lS aK aC aT aP lL lC lA (max lP (min lA ((va_up bS n cS (r - 1)) / lS)))), (aP, zaN (cT 0) 8 pn)] ++ ([(ae, zaQ (cT 3) cap (va_up ea n (some rB))), (rB, bkE cF cS bA lL (ztc cM pn cV (if n = 0 then 0 else bS (n - 1)) cF (8 - cV)) 8), (bA, zaI (cT 0) 8 (zti img pn cV (if n = 0 then 0 else bS (n - 1)) cF (8 - cV)))] ++ plr)) (va_A ([(h0, zoPr pL pT pD pB pS so pR), (pB, zoBs bQ aL (.ref rB) oK fK), (aL, zoAl ae n am), (rB, bkE cF cS bA cE cM cV), (bA, zaI (cT 0) 8 img), (pL, zoLg lS aK aC aT aP lL lC lA lP), (aP, zaN (cT 0) 8 pn)] ++ ([(ae, zaQ (cT 3) cap ea)] ++ plr)) sz)) 1 400 (va_A ([(h0, zoPr pL pT pD pB pS so pR), (pB, zoBs bQ aL (.ref rB) oK fK), (aL, zoAl ae n am), (rB, bkE cF cS bA cE cM cV), (bA, zaI (cT 0) 8 img), (pL, zoLg lS aK aC aT aP lL lC lA lP), (aP, zaN (cT 0) 8 pn)] ++ ([(ae, zaQ (cT 3) cap ea)] ++ plr)) sz) := by
  refine Met.ofW (cc := b_Pr_step) (maxL := 2) (ret := (some .int)) (by decide) rfl ?_
  intro p e s m args below meth c s₁ B hml hv
  obtain ⟨⟨rfl, hsz, hP, hK, hD0, hE⟩, hZ⟩ := hv
  have hx := B.exec
  have hb := B.bytes
  have hr := B.returns
  have hts := fun w h => atoms_spec (ws := w_Pr_step) B.pre w (List.mem_cons_of_mem _ h)
  have hown : s.vm.findClass R_Pr = some m.cls := findClass_of_methodNamed B.named
  have hlocks := B.notSynchronized
  subst hsz
  have hD := hD0.self (sz := s.heap.size)
  generalize hAe : va_A ([(h0, zoPr pL pT pD pB pS so pR), (pB, zoBs bQ aL (.ref rB) oK fK), (aL, zoAl ae n am), (rB, bkE cF cS bA cE cM cV), (bA, zaI (cT 0) 8 img), (pL, zoLg lS aK aC aT aP lL lC lA lP), (aP, zaN (cT 0) 8 pn)] ++ ([(ae, zaQ (cT 3) cap ea)] ++ plr)) s.heap.size = A at hD hZ ⊢
  have hA : ∀ q : Nat, s.heap.size ≤ q → A q := fun q h => by rw [← hAe]; exact Or.inr h
  have hS : va_S A s.heap s.heap [] := va_S.rf
  have hl := lv_entry ([.ref h0, .int (nI k)]) (n := 2) (Nat.le_of_ble_eq_true rfl)
  rw [lg_entry_eq]
  generalize (lg_sl ([.ref h0, .int (nI k)]) ++ List.replicate (2 - (lg_sl ([.ref h0, .int (nI k)])).length) Slot.unset).toArray = ls at hl ⊢
  have hl : lv_has ls 2 [(0, .ref h0), (1, .int (nI k))] := hl
  refine lv_iload_n hx hb d_Pr_step_0 rfl (lv_at hl 1 rfl) ?_
  refine lv_iconst (v := (nI 1)) hx hb d_Pr_step_1 (by decide) ?_
  refine zn_icmp_lt (tgt := 11) hx hb (a := k) (b := 1) (by omega) (by omega) d_Pr_step_2 (by decide) (fun c_2 => absurd c_2 (by omega)) (fun c_2 => ?_)
  refine lv_iload_n hx hb d_Pr_step_5 rfl (lv_at hl 1 rfl) ?_
  refine lv_bipush (v := (nI 8)) hx hb d_Pr_step_6 (by decide) ?_
  refine zn_icmp_le (tgt := 13) hx hb (a := k) (b := 8) (by omega) (by omega) d_Pr_step_8 (by decide) (fun c_8 => ?_) (fun c_8 => absurd c_8 (by omega))
  refine lv_aload_n hx hb d_Pr_step_13 rfl (lv_at hl 0 rfl) ?_
  refine va_get (D := (dC, dI)) (ci := 0) (v := .ref pB) (C := R_Pr) (T := F_Pr) (N := 7) hx hb hts i_Pr hown hK hP 0 rfl rfl 3 (by decide) (hts _ wd_155) (fun _ h9 => h9) rfl d_Pr_step_14 ?_
  refine lv_iload_n hx hb d_Pr_step_17 rfl (lv_at hl 1 rfl) ?_
  refine lv_aload_n hx hb d_Pr_step_18 rfl (lv_at hl 0 rfl) ?_
  refine va_get (D := (dC, dI)) (ci := 0) (v := .ref pL) (C := R_Pr) (T := F_Pr) (N := 7) hx hb hts i_Pr hown hK hP 0 rfl rfl 0 (by decide) (hts _ wd_152) (fun _ h9 => h9) rfl d_Pr_step_19 ?_
  refine zw_P (X := [(h0, zoPr pL pT pD pB pS so pR), (pB, zoBs bQ aL (.ref rB) oK fK), (aL, zoAl ae n am), (rB, bkE cF cS bA cE cM cV), (bA, zaI (cT 0) 8 img), (pL, zoLg lS aK aC aT aP lL lC lA lP), (aP, zaN (cT 0) 8 pn)]) (pl := [(ae, zaQ (cT 3) cap ea)] ++ plr) (va_runV (As := [.int (nI k), .ref pL]) (rest := []) ⟨hx, hb, hml, hown, hts⟩ (c_Bs_visit_in_drop l dC dI cT s.heap.size tE mi pB bQ aL oK fK ae n am cap ea ba ia bF bS bE bM bV im rB cS bA cE cM cV cF img pL lS aK aC aT aP lL lC lA lP pn k plr r (by first | omega | assumption) (by first | omega | assumption) (by first | omega | assumption) (by first | omega | assumption) (by first | omega | assumption) (by first | omega | assumption) (by first | omega | assumption) (by first | omega | assumption) (by first | omega | assumption) (by first | omega | assumption) (by first | omega | assumption) (by first | omega | assumption) (by first | omega | assumption) (by first | omega | assumption) (by first | omega | assumption) (by first | omega | assumption) (by first | omega | assumption) (by first | omega | assumption) (by first | omega | assumption) (by first | omega | assumption) (by first | omega | assumption) (by first | omega | assumption) (by first | omega | assumption) (by first | omega | assumption) (by first | omega | assumption) (by first | omega | assumption) (by first | omega | assumption) (by first | omega | assumption) (by first | omega | assumption)) (cwV 2 hts (zgV wd_337 wd_338 wd_339 wd_7 wd_340) rfl rfl rfl (by decide +kernel) ⟨Nat.le_of_ble_eq_true rfl, Nat.le_of_ble_eq_true rfl⟩) ⟨zPreS_blind, va_recv hK hP (ci := 5) (q0 := 1) rfl rfl, zp_PS (X := [(h0, zoPr pL pT pD pB pS so pR), (pB, zoBs bQ aL (.ref rB) oK fK), (aL, zoAl ae n am), (rB, bkE cF cS bA cE cM cV), (bA, zaI (cT 0) 8 img), (pL, zoLg lS aK aC aT aP lL lC lA lP), (aP, zaN (cT 0) 8 pn)]) (pl := [(ae, zaQ (cT 3) cap ea)] ++ plr) hK hE hZ hS hA hP hD [1, 2, 3, 4, 5, 6] (by decide) rfl⟩ rfl rfl hl.1 rfl (lv_room (Nat.le_of_ble_eq_true rfl)) d_Pr_step_22 ⟨Nat.le_of_ble_eq_true rfl, Nat.le_of_ble_eq_true rfl⟩) hP hD hS hA [1, 2, 3, 4, 5, 6] [0] rfl (wr := [(h0, zoPr pL pT pD pB pS so pR)]) rfl (by decide) (by decide) (fun zu => [.int (nI 0)]) (fun _ => rfl) (fun zu H locs hφ hP hD hS => ?_)
  have hP : va_P (dC, dI) vwCl ([(h0, zoPr pL pT pD pB pS so pR), (pB, zoBs bQ aL .null r (fK + 1 - 1)), (aL, zoAl ae (n + 1) (am + 1)), (pL, zoLg lS aK aC aT aP lL lC lA (max lP (min lA ((va_up bS n cS (r - 1)) / lS)))), (aP, zaN (cT 0) 8 pn)] ++ ([(ae, zaQ (cT 3) cap (va_up ea n (some rB))), (rB, bkE cF cS bA lL (ztc cM pn cV (if n = 0 then 0 else bS (n - 1)) cF (8 - cV)) 8), (bA, zaI (cT 0) 8 (zti img pn cV (if n = 0 then 0 else bS (n - 1)) cF (8 - cV)))] ++ plr)) H := hP
  have hD : va_D A ([(h0, zoPr pL pT pD pB pS so pR), (pB, zoBs bQ aL .null r (fK + 1 - 1)), (aL, zoAl ae (n + 1) (am + 1)), (pL, zoLg lS aK aC aT aP lL lC lA (max lP (min lA ((va_up bS n cS (r - 1)) / lS)))), (aP, zaN (cT 0) 8 pn)] ++ ([(ae, zaQ (cT 3) cap (va_up ea n (some rB))), (rB, bkE cF cS bA lL (ztc cM pn cV (if n = 0 then 0 else bS (n - 1)) cF (8 - cV)) 8), (bA, zaI (cT 0) 8 (zti img pn cV (if n = 0 then 0 else bS (n - 1)) cF (8 - cV)))] ++ plr)) := hD
  refine W.widen (k := 1) (n := 400) (by first | omega | exact Nat.le_of_ble_eq_true rfl) (by first | omega | exact Nat.le_of_ble_eq_true rfl) ?_
  have hP9 := va_P.part (cx := [(h0, zoPr pL pT pD pB pS so pR), (pB, zoBs bQ aL .null r (fK + 1 - 1)), (aL, zoAl ae (n + 1) (am + 1)), (pL, zoLg lS aK aC aT aP lL lC lA (max lP (min lA ((va_up bS n cS (r - 1)) / lS)))), (aP, zaN (cT 0) 8 pn)]) hP [0, 1, 2, 3, 4] rfl
  have hD9 := va_D.part (cx := [(h0, zoPr pL pT pD pB pS so pR), (pB, zoBs bQ aL .null r (fK + 1 - 1)), (aL, zoAl ae (n + 1) (am + 1)), (pL, zoLg lS aK aC aT aP lL lC lA (max lP (min lA ((va_up bS n cS (r - 1)) / lS)))), (aP, zaN (cT 0) 8 pn)]) hD [0, 1, 2, 3, 4] (by decide) rfl
  exact W.iret hx hb hr (fun t ht hW => ⟨⟨(), trivial, rfl, by rw [ht]; exact hP9, hD9⟩, hS.F ht⟩) hS.2.2 d_Pr_step_25
set_option maxHeartbeats 4000000 in
set_option maxRecDepth 100000 in
theorem c_Pr_step_grow_keep (l : Launch) (dC : Nat → ClassId) (dI : Nat → Nat → Nat) (cT : Nat → ClassId) (sz : Nat) (tE : Nat) (mi : Nat) (h0 : Nat) (pL : Nat) (pT : Nat) (pD : Nat) (pB : Nat) (pS : Nat) (pR : Nat) (so : Bool) (bQ : Nat) (aL : Nat) (oK : Nat) (fK : Nat) (ae : Nat) (n : Nat) (am : Nat) (cap : Nat) (ea : Nat → Option Nat) (ba : Nat → Nat) (ia : Nat → Nat) (bF : Nat → Bool) (bS : Nat → Nat) (bE : Nat → Nat) (bM : Nat → Nat) (bV : Nat → Nat) (im : Nat → Nat → Int32) (rB : Nat) (cS : Nat) (bA : Nat) (cE : Nat) (cM : Nat) (cV : Nat) (cF : Bool) (img : Nat → Int32) (lS : Nat) (aK : Nat) (aC : Nat) (aT : Nat) (aP : Nat) (lL : Nat) (lC : Nat) (lA : Nat) (lP : Nat) (pn : Nat → Nat) (k : Nat) (plr : va_W) (hk1 : 1 ≤ k) (hk8 : k ≤ 8) (hv : cV ≤ 7) (hM : cM ≤ 8) (hpn : ∀ j, j < 8 → pn j ≤ 1000) (hS0 : (if n = 0 then 0 else bS (n - 1)) ≤ 1000) (hn : n ≤ 257) (hL : lL ≤ 800) (ham : am < 2 ^ 30) (hf2 : fK < 1000) (hc1 : 1 ≤ cap) (hc2 : cap ≤ 256) (hk : cap = n) (hel : ∀ i, i < cap → ∃ (y : Nat) (fs : List Value), ea i = some y ∧ (y, Sum.inr (4, fs)) ∈ plr) (hpo : zPo cT ([(ae, zaQ (cT 3) cap ea)] ++ plr) n ae cap ea ba ia bF bS bE bM bV im) (hb9 : bQ ≤ 3) (hkeep : (if cF = true then fK + 1 else fK) ≤ bQ) (hpa : 8 ≤ cV + k) : Met l y_Pr_step w_Pr_step ({ frames := 9, cells := 1, slots := 400, locals := 218 } : Room) (zPreS (dC, dI) vwCl (zT cT) [.ref h0, .int (nI k)] ([(h0, zoPr pL pT pD pB pS so pR), (pB, zoBs bQ aL (.ref rB) oK fK), (aL, zoAl ae n am), (rB, bkE cF cS bA cE cM cV), (bA, zaI (cT 0) 8 img), (pL, zoLg lS aK aC aT aP lL lC lA lP), (aP, zaN (cT 0) 8 pn)] ++ ([(ae, zaQ (cT 3) cap ea)] ++ plr)) sz tE mi) (zQ (dC, dI) vwCl (S := Nat) (fun zu => True) (fun zu => some (.int (nI 0))) (fun zu => [(h0, zoPr pL pT pD pB pS so pR), (pB, zoBs bQ aL .null oK (if cF = true then fK + 1 else fK)), (aL, zoAl zu (n + 1) (am + 1)), (pL, zoLg lS aK aC aT aP lL lC lA lP), (aP, zaN (cT 0) 8 pn)] ++ ([(zu, zaQ (cT 3) (cap + max ((n + 1) - cap) (cap / 2)) (va_up (va_cpy ea (fun _ => none) 0 0 (min cap (cap + max ((n + 1) - cap) (cap / 2)))) n (some rB))), (rB, bkE cF cS bA lL (ztc cM pn cV (if n = 0 then 0 else bS (n - 1)) cF (8 - cV)) 8), (bA, zaI (cT 0) 8 (zti img pn cV (if n = 0 then 0 else bS (n - 1)) cF (8 - cV)))] ++ plr)) (va_A ([(h0, zoPr pL pT pD pB pS so pR), (pB, zoBs bQ aL (.ref rB) oK fK), (aL, zoAl ae n am), (rB, bkE cF cS bA cE cM cV), (bA, zaI (cT 0) 8 img), (pL, zoLg lS aK aC aT aP lL lC lA lP), (aP, zaN (cT 0) 8 pn)] ++ ([(ae, zaQ (cT 3) cap ea)] ++ plr)) sz)) 1 400 (va_A ([(h0, zoPr pL pT pD pB pS so pR), (pB, zoBs bQ aL (.ref rB) oK fK), (aL, zoAl ae n am), (rB, bkE cF cS bA cE cM cV), (bA, zaI (cT 0) 8 img), (pL, zoLg lS aK aC aT aP lL lC lA lP), (aP, zaN (cT 0) 8 pn)] ++ ([(ae, zaQ (cT 3) cap ea)] ++ plr)) sz) := by
  refine Met.ofW (cc := b_Pr_step) (maxL := 2) (ret := (some .int)) (by decide) rfl ?_
  intro p e s m args below meth c s₁ B hml hv
  obtain ⟨⟨rfl, hsz, hP, hK, hD0, hE⟩, hZ⟩ := hv
  have hx := B.exec
  have hb := B.bytes
  have hr := B.returns
  have hts := fun w h => atoms_spec (ws := w_Pr_step) B.pre w (List.mem_cons_of_mem _ h)
  have hown : s.vm.findClass R_Pr = some m.cls := findClass_of_methodNamed B.named
  have hlocks := B.notSynchronized
  subst hsz
  have hD := hD0.self (sz := s.heap.size)
  generalize hAe : va_A ([(h0, zoPr pL pT pD pB pS so pR), (pB, zoBs bQ aL (.ref rB) oK fK), (aL, zoAl ae n am), (rB, bkE cF cS bA cE cM cV), (bA, zaI (cT 0) 8 img), (pL, zoLg lS aK aC aT aP lL lC lA lP), (aP, zaN (cT 0) 8 pn)] ++ ([(ae, zaQ (cT 3) cap ea)] ++ plr)) s.heap.size = A at hD hZ ⊢
  have hA : ∀ q : Nat, s.heap.size ≤ q → A q := fun q h => by rw [← hAe]; exact Or.inr h
  have hS : va_S A s.heap s.heap [] := va_S.rf
  have hl := lv_entry ([.ref h0, .int (nI k)]) (n := 2) (Nat.le_of_ble_eq_true rfl)
  rw [lg_entry_eq]
  generalize (lg_sl ([.ref h0, .int (nI k)]) ++ List.replicate (2 - (lg_sl ([.ref h0, .int (nI k)])).length) Slot.unset).toArray = ls at hl ⊢
  have hl : lv_has ls 2 [(0, .ref h0), (1, .int (nI k))] := hl
  refine lv_iload_n hx hb d_Pr_step_0 rfl (lv_at hl 1 rfl) ?_
  refine lv_iconst (v := (nI 1)) hx hb d_Pr_step_1 (by decide) ?_
  refine zn_icmp_lt (tgt := 11) hx hb (a := k) (b := 1) (by omega) (by omega) d_Pr_step_2 (by decide) (fun c_2 => absurd c_2 (by omega)) (fun c_2 => ?_)
  refine lv_iload_n hx hb d_Pr_step_5 rfl (lv_at hl 1 rfl) ?_
  refine lv_bipush (v := (nI 8)) hx hb d_Pr_step_6 (by decide) ?_
  refine zn_icmp_le (tgt := 13) hx hb (a := k) (b := 8) (by omega) (by omega) d_Pr_step_8 (by decide) (fun c_8 => ?_) (fun c_8 => absurd c_8 (by omega))
  refine lv_aload_n hx hb d_Pr_step_13 rfl (lv_at hl 0 rfl) ?_
  refine va_get (D := (dC, dI)) (ci := 0) (v := .ref pB) (C := R_Pr) (T := F_Pr) (N := 7) hx hb hts i_Pr hown hK hP 0 rfl rfl 3 (by decide) (hts _ wd_155) (fun _ h9 => h9) rfl d_Pr_step_14 ?_
  refine lv_iload_n hx hb d_Pr_step_17 rfl (lv_at hl 1 rfl) ?_
  refine lv_aload_n hx hb d_Pr_step_18 rfl (lv_at hl 0 rfl) ?_
  refine va_get (D := (dC, dI)) (ci := 0) (v := .ref pL) (C := R_Pr) (T := F_Pr) (N := 7) hx hb hts i_Pr hown hK hP 0 rfl rfl 0 (by decide) (hts _ wd_152) (fun _ h9 => h9) rfl d_Pr_step_19 ?_
  refine zw_P (X := [(h0, zoPr pL pT pD pB pS so pR), (pB, zoBs bQ aL (.ref rB) oK fK), (aL, zoAl ae n am), (rB, bkE cF cS bA cE cM cV), (bA, zaI (cT 0) 8 img), (pL, zoLg lS aK aC aT aP lL lC lA lP), (aP, zaN (cT 0) 8 pn)]) (pl := [(ae, zaQ (cT 3) cap ea)] ++ plr) (va_runV (As := [.int (nI k), .ref pL]) (rest := []) ⟨hx, hb, hml, hown, hts⟩ (c_Bs_visit_grow_keep l dC dI cT s.heap.size tE mi pB bQ aL oK fK ae n am cap ea ba ia bF bS bE bM bV im rB cS bA cE cM cV cF img pL lS aK aC aT aP lL lC lA lP pn k plr (by first | omega | assumption) (by first | omega | assumption) (by first | omega | assumption) (by first | omega | assumption) (by first | omega | assumption) (by first | omega | assumption) (by first | omega | assumption) (by first | omega | assumption) (by first | omega | assumption) (by first | omega | assumption) (by first | omega | assumption) (by first | omega | assumption) (by first | omega | assumption) (by first | omega | assumption) (by first | omega | assumption) (by first | omega | assumption) (by first | omega | assumption) (by first | omega | assumption)) (cwV 2 hts (zgV wd_337 wd_338 wd_339 wd_7 wd_340) rfl rfl rfl (by decide +kernel) ⟨Nat.le_of_ble_eq_true rfl, Nat.le_of_ble_eq_true rfl⟩) ⟨zPreS_blind, va_recv hK hP (ci := 5) (q0 := 1) rfl rfl, zp_PS (X := [(h0, zoPr pL pT pD pB pS so pR), (pB, zoBs bQ aL (.ref rB) oK fK), (aL, zoAl ae n am), (rB, bkE cF cS bA cE cM cV), (bA, zaI (cT 0) 8 img), (pL, zoLg lS aK aC aT aP lL lC lA lP), (aP, zaN (cT 0) 8 pn)]) (pl := [(ae, zaQ (cT 3) cap ea)] ++ plr) hK hE hZ hS hA hP hD [1, 2, 3, 4, 5, 6] (by decide) rfl⟩ rfl rfl hl.1 rfl (lv_room (Nat.le_of_ble_eq_true rfl)) d_Pr_step_22 ⟨Nat.le_of_ble_eq_true rfl, Nat.le_of_ble_eq_true rfl⟩) hP hD hS hA [1, 2, 3, 4, 5, 6] [0] rfl (wr := [(h0, zoPr pL pT pD pB pS so pR)]) rfl (by decide) (by decide) (fun zu => [.int (nI 0)]) (fun _ => rfl) (fun zu H locs hφ hP hD hS => ?_)
  obtain ⟨qn_1, rfl⟩ : ∃ z, z = zu := ⟨_, rfl⟩
  have hP : va_P (dC, dI) vwCl ([(h0, zoPr pL pT pD pB pS so pR), (pB, zoBs bQ aL .null oK (if cF = true then fK + 1 else fK)), (aL, zoAl qn_1 (n + 1) (am + 1)), (pL, zoLg lS aK aC aT aP lL lC lA lP), (aP, zaN (cT 0) 8 pn)] ++ ([(qn_1, zaQ (cT 3) (cap + max ((n + 1) - cap) (cap / 2)) (va_up (va_cpy ea (fun _ => none) 0 0 (min cap (cap + max ((n + 1) - cap) (cap / 2)))) n (some rB))), (rB, bkE cF cS bA lL (ztc cM pn cV (if n = 0 then 0 else bS (n - 1)) cF (8 - cV)) 8), (bA, zaI (cT 0) 8 (zti img pn cV (if n = 0 then 0 else bS (n - 1)) cF (8 - cV)))] ++ plr)) H := hP
  have hD : va_D A ([(h0, zoPr pL pT pD pB pS so pR), (pB, zoBs bQ aL .null oK (if cF = true then fK + 1 else fK)), (aL, zoAl qn_1 (n + 1) (am + 1)), (pL, zoLg lS aK aC aT aP lL lC lA lP), (aP, zaN (cT 0) 8 pn)] ++ ([(qn_1, zaQ (cT 3) (cap + max ((n + 1) - cap) (cap / 2)) (va_up (va_cpy ea (fun _ => none) 0 0 (min cap (cap + max ((n + 1) - cap) (cap / 2)))) n (some rB))), (rB, bkE cF cS bA lL (ztc cM pn cV (if n = 0 then 0 else bS (n - 1)) cF (8 - cV)) 8), (bA, zaI (cT 0) 8 (zti img pn cV (if n = 0 then 0 else bS (n - 1)) cF (8 - cV)))] ++ plr)) := hD
  refine W.widen (k := 1) (n := 400) (by first | omega | exact Nat.le_of_ble_eq_true rfl) (by first | omega | exact Nat.le_of_ble_eq_true rfl) ?_
  have hP9 := va_P.part (cx := [(h0, zoPr pL pT pD pB pS so pR), (pB, zoBs bQ aL .null oK (if cF = true then fK + 1 else fK)), (aL, zoAl qn_1 (n + 1) (am + 1)), (pL, zoLg lS aK aC aT aP lL lC lA lP), (aP, zaN (cT 0) 8 pn)]) hP [0, 1, 2, 3, 4] rfl
  have hD9 := va_D.part (cx := [(h0, zoPr pL pT pD pB pS so pR), (pB, zoBs bQ aL .null oK (if cF = true then fK + 1 else fK)), (aL, zoAl qn_1 (n + 1) (am + 1)), (pL, zoLg lS aK aC aT aP lL lC lA lP), (aP, zaN (cT 0) 8 pn)]) hD [0, 1, 2, 3, 4] (by decide) rfl
  exact W.iret hx hb hr (fun t ht hW => ⟨⟨qn_1, trivial, rfl, by rw [ht]; exact hP9, hD9⟩, hS.F ht⟩) hS.2.2 d_Pr_step_25
set_option maxHeartbeats 4000000 in
set_option maxRecDepth 100000 in
theorem c_Pr_step_grow_drop (l : Launch) (dC : Nat → ClassId) (dI : Nat → Nat → Nat) (cT : Nat → ClassId) (sz : Nat) (tE : Nat) (mi : Nat) (h0 : Nat) (pL : Nat) (pT : Nat) (pD : Nat) (pB : Nat) (pS : Nat) (pR : Nat) (so : Bool) (bQ : Nat) (aL : Nat) (oK : Nat) (fK : Nat) (ae : Nat) (n : Nat) (am : Nat) (cap : Nat) (ea : Nat → Option Nat) (ba : Nat → Nat) (ia : Nat → Nat) (bF : Nat → Bool) (bS : Nat → Nat) (bE : Nat → Nat) (bM : Nat → Nat) (bV : Nat → Nat) (im : Nat → Nat → Int32) (rB : Nat) (cS : Nat) (bA : Nat) (cE : Nat) (cM : Nat) (cV : Nat) (cF : Bool) (img : Nat → Int32) (lS : Nat) (aK : Nat) (aC : Nat) (aT : Nat) (aP : Nat) (lL : Nat) (lC : Nat) (lA : Nat) (lP : Nat) (pn : Nat → Nat) (k : Nat) (plr : va_W) (r : Nat) (hk1 : 1 ≤ k) (hk8 : k ≤ 8) (hv : cV ≤ 7) (hM : cM ≤ 8) (hpn : ∀ j, j < 8 → pn j ≤ 1000) (hS0 : (if n = 0 then 0 else bS (n - 1)) ≤ 1000) (hn : n ≤ 257) (hL : lL ≤ 800) (ham : am < 2 ^ 30) (hf2 : fK < 1000) (hc1 : 1 ≤ cap) (hc2 : cap ≤ 256) (hk : cap = n) (hel : ∀ i, i < cap → ∃ (y : Nat) (fs : List Value), ea i = some y ∧ (y, Sum.inr (4, fs)) ∈ plr) (hpo : zPo cT ([(ae, zaQ (cT 3) cap ea)] ++ plr) n ae cap ea ba ia bF bS bE bM bV im) (hn9 : n ≤ 256) (hmp : ∀ i, i < n → (ba i, bkE (bF i) (bS i) (ia i) (bE i) (bM i) (bV i)) ∈ plr ∧ (ia i, Sum.inl (cT 0, 8, .inl (im i))) ∈ plr) (hcf : cF = true) (hb9 : bQ ≤ 3) (hdr : bQ < fK + 1) (ho1 : 1 ≤ oK) (hr1 : oK + 1 ≤ r) (hr2 : r ≤ n + 1) (hr3 : ∀ b, oK + 1 ≤ b → b < r → va_up bF n cF (b - 1) = false) (hr4 : r < n + 1 → va_up bF n cF (r - 1) = true) (hst : va_up bS n cS (r - 1) ≤ 1000) (h0s : 0 < lS) (hs : lS ≤ 8) (hA : lA < 2 ^ 30) (hPu : lP < 2 ^ 30) (hpa : 8 ≤ cV + k) : Met l y_Pr_step w_Pr_step ({ frames := 9, cells := 1, slots := 400, locals := 218 } : Room) (zPreS (dC, dI) vwCl (zT cT) [.ref h0, .int (nI k)] ([(h0, zoPr pL pT pD pB pS so pR), (pB, zoBs bQ aL (.ref rB) oK fK), (aL, zoAl ae n am), (rB, bkE cF cS bA cE cM cV), (bA, zaI (cT 0) 8 img), (pL, zoLg lS aK aC aT aP lL lC lA lP), (aP, zaN (cT 0) 8 pn)] ++ ([(ae, zaQ (cT 3) cap ea)] ++ plr)) sz tE mi) (zQ (dC, dI) vwCl (S := Nat) (fun zu => True) (fun zu => some (.int (nI 0))) (fun zu => [(h0, zoPr pL pT pD pB pS so pR), (pB, zoBs bQ aL .null r (fK + 1 - 1)), (aL, zoAl zu (n + 1) (am + 1)), (pL, zoLg lS aK aC aT aP lL lC lA (max lP (min lA ((va_up bS n cS (r - 1)) / lS)))), (aP, zaN (cT 0) 8 pn)] ++ ([(zu, zaQ (cT 3) (cap + max ((n + 1) - cap) (cap / 2)) (va_up (va_cpy ea (fun _ => none) 0 0 (min cap (cap + max ((n + 1) - cap) (cap / 2)))) n (some rB))), (rB, bkE cF cS bA lL (ztc cM pn cV (if n = 0 then 0 else bS (n - 1)) cF (8 - cV)) 8), (bA, zaI (cT 0) 8 (zti img pn cV (if n = 0 then 0 else bS (n - 1)) cF (8 - cV)))] ++ plr)) (va_A ([(h0, zoPr pL pT pD pB pS so pR), (pB, zoBs bQ aL (.ref rB) oK fK), (aL, zoAl ae n am), (rB, bkE cF cS bA cE cM cV), (bA, zaI (cT 0) 8 img), (pL, zoLg lS aK aC aT aP lL lC lA lP), (aP, zaN (cT 0) 8 pn)] ++ ([(ae, zaQ (cT 3) cap ea)] ++ plr)) sz)) 1 400 (va_A ([(h0, zoPr pL pT pD pB pS so pR), (pB, zoBs bQ aL (.ref rB) oK fK), (aL, zoAl ae n am), (rB, bkE cF cS bA cE cM cV), (bA, zaI (cT 0) 8 img), (pL, zoLg lS aK aC aT aP lL lC lA lP), (aP, zaN (cT 0) 8 pn)] ++ ([(ae, zaQ (cT 3) cap ea)] ++ plr)) sz) := by
  refine Met.ofW (cc := b_Pr_step) (maxL := 2) (ret := (some .int)) (by decide) rfl ?_
  intro p e s m args below meth c s₁ B hml hv
  obtain ⟨⟨rfl, hsz, hP, hK, hD0, hE⟩, hZ⟩ := hv
  have hx := B.exec
  have hb := B.bytes
  have hr := B.returns
  have hts := fun w h => atoms_spec (ws := w_Pr_step) B.pre w (List.mem_cons_of_mem _ h)
  have hown : s.vm.findClass R_Pr = some m.cls := findClass_of_methodNamed B.named
  have hlocks := B.notSynchronized
  subst hsz
  have hD := hD0.self (sz := s.heap.size)
  generalize hAe : va_A ([(h0, zoPr pL pT pD pB pS so pR), (pB, zoBs bQ aL (.ref rB) oK fK), (aL, zoAl ae n am), (rB, bkE cF cS bA cE cM cV), (bA, zaI (cT 0) 8 img), (pL, zoLg lS aK aC aT aP lL lC lA lP), (aP, zaN (cT 0) 8 pn)] ++ ([(ae, zaQ (cT 3) cap ea)] ++ plr)) s.heap.size = A at hD hZ ⊢
  have hA : ∀ q : Nat, s.heap.size ≤ q → A q := fun q h => by rw [← hAe]; exact Or.inr h
  have hS : va_S A s.heap s.heap [] := va_S.rf
  have hl := lv_entry ([.ref h0, .int (nI k)]) (n := 2) (Nat.le_of_ble_eq_true rfl)
  rw [lg_entry_eq]
  generalize (lg_sl ([.ref h0, .int (nI k)]) ++ List.replicate (2 - (lg_sl ([.ref h0, .int (nI k)])).length) Slot.unset).toArray = ls at hl ⊢
  have hl : lv_has ls 2 [(0, .ref h0), (1, .int (nI k))] := hl
  refine lv_iload_n hx hb d_Pr_step_0 rfl (lv_at hl 1 rfl) ?_
  refine lv_iconst (v := (nI 1)) hx hb d_Pr_step_1 (by decide) ?_
  refine zn_icmp_lt (tgt := 11) hx hb (a := k) (b := 1) (by omega) (by omega) d_Pr_step_2 (by decide) (fun c_2 => absurd c_2 (by omega)) (fun c_2 => ?_)
  refine lv_iload_n hx hb d_Pr_step_5 rfl (lv_at hl 1 rfl) ?_
  refine lv_bipush (v := (nI 8)) hx hb d_Pr_step_6 (by decide) ?_
  refine zn_icmp_le (tgt := 13) hx hb (a := k) (b := 8) (by omega) (by omega) d_Pr_step_8 (by decide) (fun c_8 => ?_) (fun c_8 => absurd c_8 (by omega))
  refine lv_aload_n hx hb d_Pr_step_13 rfl (lv_at hl 0 rfl) ?_
  refine va_get (D := (dC, dI)) (ci := 0) (v := .ref pB) (C := R_Pr) (T := F_Pr) (N := 7) hx hb hts i_Pr hown hK hP 0 rfl rfl 3 (by decide) (hts _ wd_155) (fun _ h9 => h9) rfl d_Pr_step_14 ?_
  refine lv_iload_n hx hb d_Pr_step_17 rfl (lv_at hl 1 rfl) ?_
  refine lv_aload_n hx hb d_Pr_step_18 rfl (lv_at hl 0 rfl) ?_
  refine va_get (D := (dC, dI)) (ci := 0) (v := .ref pL) (C := R_Pr) (T := F_Pr) (N := 7) hx hb hts i_Pr hown hK hP 0 rfl rfl 0 (by decide) (hts _ wd_152) (fun _ h9 => h9) rfl d_Pr_step_19 ?_
  refine zw_P (X := [(h0, zoPr pL pT pD pB pS so pR), (pB, zoBs bQ aL (.ref rB) oK fK), (aL, zoAl ae n am), (rB, bkE cF cS bA cE cM cV), (bA, zaI (cT 0) 8 img), (pL, zoLg lS aK aC aT aP lL lC lA lP), (aP, zaN (cT 0) 8 pn)]) (pl := [(ae, zaQ (cT 3) cap ea)] ++ plr) (va_runV (As := [.int (nI k), .ref pL]) (rest := []) ⟨hx, hb, hml, hown, hts⟩ (c_Bs_visit_grow_drop l dC dI cT s.heap.size tE mi pB bQ aL oK fK ae n am cap ea ba ia bF bS bE bM bV im rB cS bA cE cM cV cF img pL lS aK aC aT aP lL lC lA lP pn k plr r (by first | omega | assumption) (by first | omega | assumption) (by first | omega | assumption) (by first | omega | assumption) (by first | omega | assumption) (by first | omega | assumption) (by first | omega | assumption) (by first | omega | assumption) (by first | omega | assumption) (by first | omega | assumption) (by first | omega | assumption) (by first | omega | assumption) (by first | omega | assumption) (by first | omega | assumption) (by first | omega | assumption) (by first | omega | assumption) (by first | omega | assumption) (by first | omega | assumption) (by first | omega | assumption) (by first | omega | assumption) (by first | omega | assumption) (by first | omega | assumption) (by first | omega | assumption) (by first | omega | assumption) (by first | omega | assumption) (by first | omega | assumption) (by first | omega | assumption) (by first | omega | assumption) (by first | omega | assumption) (by first | omega | assumption) (by first | omega | assumption)) (cwV 2 hts (zgV wd_337 wd_338 wd_339 wd_7 wd_340) rfl rfl rfl (by decide +kernel) ⟨Nat.le_of_ble_eq_true rfl, Nat.le_of_ble_eq_true rfl⟩) ⟨zPreS_blind, va_recv hK hP (ci := 5) (q0 := 1) rfl rfl, zp_PS (X := [(h0, zoPr pL pT pD pB pS so pR), (pB, zoBs bQ aL (.ref rB) oK fK), (aL, zoAl ae n am), (rB, bkE cF cS bA cE cM cV), (bA, zaI (cT 0) 8 img), (pL, zoLg lS aK aC aT aP lL lC lA lP), (aP, zaN (cT 0) 8 pn)]) (pl := [(ae, zaQ (cT 3) cap ea)] ++ plr) hK hE hZ hS hA hP hD [1, 2, 3, 4, 5, 6] (by decide) rfl⟩ rfl rfl hl.1 rfl (lv_room (Nat.le_of_ble_eq_true rfl)) d_Pr_step_22 ⟨Nat.le_of_ble_eq_true rfl, Nat.le_of_ble_eq_true rfl⟩) hP hD hS hA [1, 2, 3, 4, 5, 6] [0] rfl (wr := [(h0, zoPr pL pT pD pB pS so pR)]) rfl (by decide) (by decide) (fun zu => [.int (nI 0)]) (fun _ => rfl) (fun zu H locs hφ hP hD hS => ?_)
  obtain ⟨qn_1, rfl⟩ : ∃ z, z = zu := ⟨_, rfl⟩
  have hP : va_P (dC, dI) vwCl ([(h0, zoPr pL pT pD pB pS so pR), (pB, zoBs bQ aL .null r (fK + 1 - 1)), (aL, zoAl qn_1 (n + 1) (am + 1)), (pL, zoLg lS aK aC aT aP lL lC lA (max lP (min lA ((va_up bS n cS (r - 1)) / lS)))), (aP, zaN (cT 0) 8 pn)] ++ ([(qn_1, zaQ (cT 3) (cap + max ((n + 1) - cap) (cap / 2)) (va_up (va_cpy ea (fun _ => none) 0 0 (min cap (cap + max ((n + 1) - cap) (cap / 2)))) n (some rB))), (rB, bkE cF cS bA lL (ztc cM pn cV (if n = 0 then 0 else bS (n - 1)) cF (8 - cV)) 8), (bA, zaI (cT 0) 8 (zti img pn cV (if n = 0 then 0 else bS (n - 1)) cF (8 - cV)))] ++ plr)) H := hP
  have hD : va_D A ([(h0, zoPr pL pT pD pB pS so pR), (pB, zoBs bQ aL .null r (fK + 1 - 1)), (aL, zoAl qn_1 (n + 1) (am + 1)), (pL, zoLg lS aK aC aT aP lL lC lA (max lP (min lA ((va_up bS n cS (r - 1)) / lS)))), (aP, zaN (cT 0) 8 pn)] ++ ([(qn_1, zaQ (cT 3) (cap + max ((n + 1) - cap) (cap / 2)) (va_up (va_cpy ea (fun _ => none) 0 0 (min cap (cap + max ((n + 1) - cap) (cap / 2)))) n (some rB))), (rB, bkE cF cS bA lL (ztc cM pn cV (if n = 0 then 0 else bS (n - 1)) cF (8 - cV)) 8), (bA, zaI (cT 0) 8 (zti img pn cV (if n = 0 then 0 else bS (n - 1)) cF (8 - cV)))] ++ plr)) := hD
  refine W.widen (k := 1) (n := 400) (by first | omega | exact Nat.le_of_ble_eq_true rfl) (by first | omega | exact Nat.le_of_ble_eq_true rfl) ?_
  have hP9 := va_P.part (cx := [(h0, zoPr pL pT pD pB pS so pR), (pB, zoBs bQ aL .null r (fK + 1 - 1)), (aL, zoAl qn_1 (n + 1) (am + 1)), (pL, zoLg lS aK aC aT aP lL lC lA (max lP (min lA ((va_up bS n cS (r - 1)) / lS)))), (aP, zaN (cT 0) 8 pn)]) hP [0, 1, 2, 3, 4] rfl
  have hD9 := va_D.part (cx := [(h0, zoPr pL pT pD pB pS so pR), (pB, zoBs bQ aL .null r (fK + 1 - 1)), (aL, zoAl qn_1 (n + 1) (am + 1)), (pL, zoLg lS aK aC aT aP lL lC lA (max lP (min lA ((va_up bS n cS (r - 1)) / lS)))), (aP, zaN (cT 0) 8 pn)]) hD [0, 1, 2, 3, 4] (by decide) rfl
  exact W.iret hx hb hr (fun t ht hW => ⟨⟨qn_1, trivial, rfl, by rw [ht]; exact hP9, hD9⟩, hS.F ht⟩) hS.2.2 d_Pr_step_25
set_option maxHeartbeats 4000000 in
set_option maxRecDepth 100000 in
theorem c_Pr_step_first_keep (l : Launch) (dC : Nat → ClassId) (dI : Nat → Nat → Nat) (cT : Nat → ClassId) (sz : Nat) (tE : Nat) (mi : Nat) (h0 : Nat) (pL : Nat) (pT : Nat) (pD : Nat) (pB : Nat) (pS : Nat) (pR : Nat) (so : Bool) (bQ : Nat) (aL : Nat) (oK : Nat) (fK : Nat) (n : Nat) (am : Nat) (cap : Nat) (ea : Nat → Option Nat) (ba : Nat → Nat) (ia : Nat → Nat) (bF : Nat → Bool) (bS : Nat → Nat) (bE : Nat → Nat) (bM : Nat → Nat) (bV : Nat → Nat) (im : Nat → Nat → Int32) (rB : Nat) (cS : Nat) (bA : Nat) (cE : Nat) (cM : Nat) (cV : Nat) (cF : Bool) (img : Nat → Int32) (lS : Nat) (aK : Nat) (aC : Nat) (aT : Nat) (aP : Nat) (lL : Nat) (lC : Nat) (lA : Nat) (lP : Nat) (pn : Nat → Nat) (k : Nat) (plr : va_W) (hk1 : 1 ≤ k) (hk8 : k ≤ 8) (hv : cV ≤ 7) (hM : cM ≤ 8) (hpn : ∀ j, j < 8 → pn j ≤ 1000) (hS0 : (if n = 0 then 0 else bS (n - 1)) ≤ 1000) (hn : n ≤ 257) (hL : lL ≤ 800) (ham : am < 2 ^ 30) (hf2 : fK < 1000) (hk : n = 0) (hpo : zPo cT (plr) n tE cap ea ba ia bF bS bE bM bV im) (hb9 : bQ ≤ 3) (hkeep : (if cF = true then fK + 1 else fK) ≤ bQ) (hpa : 8 ≤ cV + k) : Met l y_Pr_step w_Pr_step ({ frames := 7, cells := 1, slots := 400, locals := 155 } : Room) (zPreS (dC, dI) vwCl (zT cT) [.ref h0, .int (nI k)] ([(h0, zoPr pL pT pD pB pS so pR), (pB, zoBs bQ aL (.ref rB) oK fK), (aL, zoAl tE n am), (rB, bkE cF cS bA cE cM cV), (bA, zaI (cT 0) 8 img), (pL, zoLg lS aK aC aT aP lL lC lA lP), (aP, zaN (cT 0) 8 pn)] ++ plr) sz tE mi) (zQ (dC, dI) vwCl (S := Nat) (fun zu => True) (fun zu => some (.int (nI 0))) (fun zu => [(h0, zoPr pL pT pD pB pS so pR), (pB, zoBs bQ aL .null oK (if cF = true then fK + 1 else fK)), (aL, zoAl zu (n + 1) (am + 1)), (pL, zoLg lS aK aC aT aP lL lC lA lP), (aP, zaN (cT 0) 8 pn)] ++ ([(zu, zaQ (cT 3) (max 10 (n + 1)) (va_up (fun _ => none) n (some rB))), (rB, bkE cF cS bA lL (ztc cM pn cV (if n = 0 then 0 else bS (n - 1)) cF (8 - cV)) 8), (bA, zaI (cT 0) 8 (zti img pn cV (if n = 0 then 0 else bS (n - 1)) cF (8 - cV)))] ++ plr)) (va_A ([(h0, zoPr pL pT pD pB pS so pR), (pB, zoBs bQ aL (.ref rB) oK fK), (aL, zoAl tE n am), (rB, bkE cF cS bA cE cM cV), (bA, zaI (cT 0) 8 img), (pL, zoLg lS aK aC aT aP lL lC lA lP), (aP, zaN (cT 0) 8 pn)] ++ plr) sz)) 1 400 (va_A ([(h0, zoPr pL pT pD pB pS so pR), (pB, zoBs bQ aL (.ref rB) oK fK), (aL, zoAl tE n am), (rB, bkE cF cS bA cE cM cV), (bA, zaI (cT 0) 8 img), (pL, zoLg lS aK aC aT aP lL lC lA lP), (aP, zaN (cT 0) 8 pn)] ++ plr) sz) := by
  refine Met.ofW (cc := b_Pr_step) (maxL := 2) (ret := (some .int)) (by decide) rfl ?_
  intro p e s m args below meth c s₁ B hml hv
  obtain ⟨⟨rfl, hsz, hP, hK, hD0, hE⟩, hZ⟩ := hv
  have hx := B.exec
  have hb := B.bytes
  have hr := B.returns
  have hts := fun w h => atoms_spec (ws := w_Pr_step) B.pre w (List.mem_cons_of_mem _ h)
  have hown : s.vm.findClass R_Pr = some m.cls := findClass_of_methodNamed B.named
  have hlocks := B.notSynchronized
  subst hsz
  have hD := hD0.self (sz := s.heap.size)
  generalize hAe : va_A ([(h0, zoPr pL pT pD pB pS so pR), (pB, zoBs bQ aL (.ref rB) oK fK), (aL, zoAl tE n am), (rB, bkE cF cS bA cE cM cV), (bA, zaI (cT 0) 8 img), (pL, zoLg lS aK aC aT aP lL lC lA lP), (aP, zaN (cT 0) 8 pn)] ++ plr) s.heap.size = A at hD hZ ⊢
  have hA : ∀ q : Nat, s.heap.size ≤ q → A q := fun q h => by rw [← hAe]; exact Or.inr h
  have hS : va_S A s.heap s.heap [] := va_S.rf
  have hl := lv_entry ([.ref h0, .int (nI k)]) (n := 2) (Nat.le_of_ble_eq_true rfl)
  rw [lg_entry_eq]
  generalize (lg_sl ([.ref h0, .int (nI k)]) ++ List.replicate (2 - (lg_sl ([.ref h0, .int (nI k)])).length) Slot.unset).toArray = ls at hl ⊢
  have hl : lv_has ls 2 [(0, .ref h0), (1, .int (nI k))] := hl
  refine lv_iload_n hx hb d_Pr_step_0 rfl (lv_at hl 1 rfl) ?_
  refine lv_iconst (v := (nI 1)) hx hb d_Pr_step_1 (by decide) ?_
  refine zn_icmp_lt (tgt := 11) hx hb (a := k) (b := 1) (by omega) (by omega) d_Pr_step_2 (by decide) (fun c_2 => absurd c_2 (by omega)) (fun c_2 => ?_)
  refine lv_iload_n hx hb d_Pr_step_5 rfl (lv_at hl 1 rfl) ?_
  refine lv_bipush (v := (nI 8)) hx hb d_Pr_step_6 (by decide) ?_
  refine zn_icmp_le (tgt := 13) hx hb (a := k) (b := 8) (by omega) (by omega) d_Pr_step_8 (by decide) (fun c_8 => ?_) (fun c_8 => absurd c_8 (by omega))
  refine lv_aload_n hx hb d_Pr_step_13 rfl (lv_at hl 0 rfl) ?_
  refine va_get (D := (dC, dI)) (ci := 0) (v := .ref pB) (C := R_Pr) (T := F_Pr) (N := 7) hx hb hts i_Pr hown hK hP 0 rfl rfl 3 (by decide) (hts _ wd_155) (fun _ h9 => h9) rfl d_Pr_step_14 ?_
  refine lv_iload_n hx hb d_Pr_step_17 rfl (lv_at hl 1 rfl) ?_
  refine lv_aload_n hx hb d_Pr_step_18 rfl (lv_at hl 0 rfl) ?_
  refine va_get (D := (dC, dI)) (ci := 0) (v := .ref pL) (C := R_Pr) (T := F_Pr) (N := 7) hx hb hts i_Pr hown hK hP 0 rfl rfl 0 (by decide) (hts _ wd_152) (fun _ h9 => h9) rfl d_Pr_step_19 ?_
  refine zw_P (X := [(h0, zoPr pL pT pD pB pS so pR), (pB, zoBs bQ aL (.ref rB) oK fK), (aL, zoAl tE n am), (rB, bkE cF cS bA cE cM cV), (bA, zaI (cT 0) 8 img), (pL, zoLg lS aK aC aT aP lL lC lA lP), (aP, zaN (cT 0) 8 pn)]) (pl := plr) (va_runV (As := [.int (nI k), .ref pL]) (rest := []) ⟨hx, hb, hml, hown, hts⟩ (c_Bs_visit_first_keep l dC dI cT s.heap.size tE mi pB bQ aL oK fK n am cap ea ba ia bF bS bE bM bV im rB cS bA cE cM cV cF img pL lS aK aC aT aP lL lC lA lP pn k plr (by first | omega | assumption) (by first | omega | assumption) (by first | omega | assumption) (by first | omega | assumption) (by first | omega | assumption) (by first | omega | assumption) (by first | omega | assumption) (by first | omega | assumption) (by first | omega | assumption) (by first | omega | assumption) (by first | omega | assumption) (by first | omega | assumption) (by first | omega | assumption) (by first | omega | assumption) (by first | omega | assumption)) (cwV 2 hts (zgV wd_337 wd_338 wd_339 wd_7 wd_340) rfl rfl rfl (by decide +kernel) ⟨Nat.le_of_ble_eq_true rfl, Nat.le_of_ble_eq_true rfl⟩) ⟨zPreS_blind, va_recv hK hP (ci := 5) (q0 := 1) rfl rfl, zp_PS (X := [(h0, zoPr pL pT pD pB pS so pR), (pB, zoBs bQ aL (.ref rB) oK fK), (aL, zoAl tE n am), (rB, bkE cF cS bA cE cM cV), (bA, zaI (cT 0) 8 img), (pL, zoLg lS aK aC aT aP lL lC lA lP), (aP, zaN (cT 0) 8 pn)]) (pl := plr) hK hE hZ hS hA hP hD [1, 2, 3, 4, 5, 6] (by decide) rfl⟩ rfl rfl hl.1 rfl (lv_room (Nat.le_of_ble_eq_true rfl)) d_Pr_step_22 ⟨Nat.le_of_ble_eq_true rfl, Nat.le_of_ble_eq_true rfl⟩) hP hD hS hA [1, 2, 3, 4, 5, 6] [0] rfl (wr := [(h0, zoPr pL pT pD pB pS so pR)]) rfl (by decide) (by decide) (fun zu => [.int (nI 0)]) (fun _ => rfl) (fun zu H locs hφ hP hD hS => ?_)
  obtain ⟨qn_1, rfl⟩ : ∃ z, z = zu := ⟨_, rfl⟩
  have hP : va_P (dC, dI) vwCl ([(h0, zoPr pL pT pD pB pS so pR), (pB, zoBs bQ aL .null oK (if cF = true then fK + 1 else fK)), (aL, zoAl qn_1 (n + 1) (am + 1)), (pL, zoLg lS aK aC aT aP lL lC lA lP), (aP, zaN (cT 0) 8 pn)] ++ ([(qn_1, zaQ (cT 3) (max 10 (n + 1)) (va_up (fun _ => none) n (some rB))), (rB, bkE cF cS bA lL (ztc cM pn cV (if n = 0 then 0 else bS (n - 1)) cF (8 - cV)) 8), (bA, zaI (cT 0) 8 (zti img pn cV (if n = 0 then 0 else bS (n - 1)) cF (8 - cV)))] ++ plr)) H := hP
  have hD : va_D A ([(h0, zoPr pL pT pD pB pS so pR), (pB, zoBs bQ aL .null oK (if cF = true then fK + 1 else fK)), (aL, zoAl qn_1 (n + 1) (am + 1)), (pL, zoLg lS aK aC aT aP lL lC lA lP), (aP, zaN (cT 0) 8 pn)] ++ ([(qn_1, zaQ (cT 3) (max 10 (n + 1)) (va_up (fun _ => none) n (some rB))), (rB, bkE cF cS bA lL (ztc cM pn cV (if n = 0 then 0 else bS (n - 1)) cF (8 - cV)) 8), (bA, zaI (cT 0) 8 (zti img pn cV (if n = 0 then 0 else bS (n - 1)) cF (8 - cV)))] ++ plr)) := hD
  refine W.widen (k := 1) (n := 400) (by first | omega | exact Nat.le_of_ble_eq_true rfl) (by first | omega | exact Nat.le_of_ble_eq_true rfl) ?_
  have hP9 := va_P.part (cx := [(h0, zoPr pL pT pD pB pS so pR), (pB, zoBs bQ aL .null oK (if cF = true then fK + 1 else fK)), (aL, zoAl qn_1 (n + 1) (am + 1)), (pL, zoLg lS aK aC aT aP lL lC lA lP), (aP, zaN (cT 0) 8 pn)]) hP [0, 1, 2, 3, 4] rfl
  have hD9 := va_D.part (cx := [(h0, zoPr pL pT pD pB pS so pR), (pB, zoBs bQ aL .null oK (if cF = true then fK + 1 else fK)), (aL, zoAl qn_1 (n + 1) (am + 1)), (pL, zoLg lS aK aC aT aP lL lC lA lP), (aP, zaN (cT 0) 8 pn)]) hD [0, 1, 2, 3, 4] (by decide) rfl
  exact W.iret hx hb hr (fun t ht hW => ⟨⟨qn_1, trivial, rfl, by rw [ht]; exact hP9, hD9⟩, hS.F ht⟩) hS.2.2 d_Pr_step_25
