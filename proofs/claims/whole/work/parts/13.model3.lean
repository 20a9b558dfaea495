set_option maxHeartbeats 4000000 in
set_option maxRecDepth 100000 in
theorem c_Md_finish_keep (l : Launch) (dC : Nat → ClassId) (dI : Nat → Nat → Nat) (cT : Nat → ClassId) (sz : Nat) (h0 : Nat) (mS : Nat) (mQ : Nat) (gK : Nat) (gV : Nat) (gH : Nat) (mL : Nat) (mo : Bool) (gM : Nat) (mch : Nat) (mA : Nat) (mP : Nat) (gI : Nat) (gR : Nat) (gT : Nat) (gF : Nat) (gS : Nat) (gE : Nat) (gC : Nat) (mB : Nat) (ml : Int32) (mz : Int32) (mt : Nat → Bool) (mf : Nat → Bool) (mst : Nat → Nat) (me : Nat → Nat) (hB : mB ≤ 255) (hL : mL ≤ 1000) (hQ : mQ ≤ 3) (hnd : mf (mB + 1) = false ∨ zful (va_up mt (mB + 1) true) mf (mB + 1) ≤ mQ) : Met l y_Md_finish w_Md_finish ({ frames := 1, cells := 0, slots := 0, locals := 22 } : Room) (zPre (dC, dI) vwCl (zT cT) [.ref h0] ([(h0, zoMd mS mQ gK gV gH mL mo gM mch mA mP gI gR gT gF gS gE gC mB ml mz), (gT, zaZ (cT 2) 260 mt), (gF, zaZ (cT 2) 260 mf), (gS, zaN (cT 0) 260 mst), (gE, zaN (cT 0) 260 me)]) sz) (zQ (dC, dI) vwCl (S := Unit) (fun zu => True) (fun zu => none) (fun zu => [(h0, zoMd mS mQ gK gV gH mL mo gM mch mA mP gI gR gT gF gS gE gC (mB + 1) (-2) mz), (gT, zaZ (cT 2) 260 (va_up mt (mB + 1) true)), (gF, zaZ (cT 2) 260 mf), (gS, zaN (cT 0) 260 mst), (gE, zaN (cT 0) 260 (va_up me (mB + 1) mL))]) (va_A ([(h0, zoMd mS mQ gK gV gH mL mo gM mch mA mP gI gR gT gF gS gE gC mB ml mz), (gT, zaZ (cT 2) 260 mt), (gF, zaZ (cT 2) 260 mf), (gS, zaN (cT 0) 260 mst), (gE, zaN (cT 0) 260 me)]) sz)) 0 0 (va_A ([(h0, zoMd mS mQ gK gV gH mL mo gM mch mA mP gI gR gT gF gS gE gC mB ml mz), (gT, zaZ (cT 2) 260 mt), (gF, zaZ (cT 2) 260 mf), (gS, zaN (cT 0) 260 mst), (gE, zaN (cT 0) 260 me)]) sz) := by
  refine Met.ofW (cc := b_Md_finish) (maxL := 3) (ret := none) (by decide) rfl ?_
  intro p e s m args below meth c s₁ B hml hv
  obtain ⟨rfl, hsz, hP, hK, hD0, hE⟩ := hv
  have hx := B.exec
  have hb := B.bytes
  have hr := B.returns
  have hts := fun w h => atoms_spec (ws := w_Md_finish) B.pre w (List.mem_cons_of_mem _ h)
  have hown : s.vm.findClass R_Md = some m.cls := findClass_of_methodNamed B.named
  have hlocks := B.notSynchronized
  subst hsz
  have hD := hD0.self (sz := s.heap.size)
  generalize hAe : va_A ([(h0, zoMd mS mQ gK gV gH mL mo gM mch mA mP gI gR gT gF gS gE gC mB ml mz), (gT, zaZ (cT 2) 260 mt), (gF, zaZ (cT 2) 260 mf), (gS, zaN (cT 0) 260 mst), (gE, zaN (cT 0) 260 me)]) s.heap.size = A at hD ⊢
  have hA : ∀ q : Nat, s.heap.size ≤ q → A q := fun q h => by rw [← hAe]; exact Or.inr h
  have hS : va_S A s.heap s.heap [] := va_S.rf
  have hl := lv_entry ([.ref h0]) (n := 3) (Nat.le_of_ble_eq_true rfl)
  rw [lg_entry_eq]
  generalize (lg_sl ([.ref h0]) ++ List.replicate (3 - (lg_sl ([.ref h0])).length) Slot.unset).toArray = ls at hl ⊢
  have hl : lv_has ls 3 [(0, .ref h0)] := hl
  have hzf := zful_le (va_up mt (mB + 1) true) mf (mB + 1)
  refine lv_aload_n hx hb d_Md_finish_0 rfl (lv_at hl 0 rfl) ?_
  refine lv_dup hx hb d_Md_finish_1 rfl ?_
  refine va_get (D := (dC, dI)) (ci := 6) (v := .int (nI mB)) (C := R_Md) (T := F_Md) (N := 21) hx hb hts i_Md hown hK hP 0 rfl rfl 18 (by decide) (hts _ wd_581) (fun _ h9 => h9) rfl d_Md_finish_2 ?_
  refine lv_iconst (v := (nI 1)) hx hb d_Md_finish_5 (by decide) ?_
  refine zn_iadd hx hb d_Md_finish_6 ?_
  refine va_put (D := (dC, dI)) (ci := 6) (v := .int (nI (mB + 1))) (ty := .int) (C := R_Md) (T := F_Md) (N := 21) hx hb hts i_Md t_Md t_Md_ok n_Md hown hK hP hD hS 0 rfl rfl 18 (by decide) (hts _ wd_581) (fun _ h9 => h9) rfl (by decide +kernel) rfl rfl (Nat.le_of_ble_eq_true rfl) d_Md_finish_7 (fun H locs hP hD hS => ?_)
  have hP : va_P (dC, dI) vwCl ([(h0, zoMd mS mQ gK gV gH mL mo gM mch mA mP gI gR gT gF gS gE gC (mB + 1) ml mz), (gT, zaZ (cT 2) 260 mt), (gF, zaZ (cT 2) 260 mf), (gS, zaN (cT 0) 260 mst), (gE, zaN (cT 0) 260 me)]) H := hP
  have hD : va_D A ([(h0, zoMd mS mQ gK gV gH mL mo gM mch mA mP gI gR gT gF gS gE gC (mB + 1) ml mz), (gT, zaZ (cT 2) 260 mt), (gF, zaZ (cT 2) 260 mf), (gS, zaN (cT 0) 260 mst), (gE, zaN (cT 0) 260 me)]) := hD
  refine lv_aload_n hx hb d_Md_finish_10 rfl (lv_at hl 0 rfl) ?_
  refine va_get (D := (dC, dI)) (ci := 6) (v := .ref gT) (C := R_Md) (T := F_Md) (N := 21) hx hb hts i_Md hown hK hP 0 rfl rfl 13 (by decide) (hts _ wd_576) (fun _ h9 => h9) rfl d_Md_finish_11 ?_
  refine lv_aload_n hx hb d_Md_finish_14 rfl (lv_at hl 0 rfl) ?_
  refine va_get (D := (dC, dI)) (ci := 6) (v := .int (nI (mB + 1))) (C := R_Md) (T := F_Md) (N := 21) hx hb hts i_Md hown hK hP 0 rfl rfl 18 (by decide) (hts _ wd_581) (fun _ h9 => h9) rfl d_Md_finish_15 ?_
  refine lv_iconst (v := (nI 1)) hx hb d_Md_finish_18 (by decide) ?_
  refine W.eq (g2 := F0 m 19 ls [.int (zb true), .int (nI (mB + 1)), .ref gT]) rfl ?_
  refine zn_zastB hx hb hK hP hD hS 1 2 rfl rfl (i := mB + 1) (x := true) (by omega) (by omega) d_Md_finish_19 (fun H locs hP hD hS => ?_)
  have hP : va_P (dC, dI) vwCl ([(h0, zoMd mS mQ gK gV gH mL mo gM mch mA mP gI gR gT gF gS gE gC (mB + 1) ml mz), (gT, zaZ (cT 2) 260 (va_up mt (mB + 1) true)), (gF, zaZ (cT 2) 260 mf), (gS, zaN (cT 0) 260 mst), (gE, zaN (cT 0) 260 me)]) H := hP
  have hD : va_D A ([(h0, zoMd mS mQ gK gV gH mL mo gM mch mA mP gI gR gT gF gS gE gC (mB + 1) ml mz), (gT, zaZ (cT 2) 260 (va_up mt (mB + 1) true)), (gF, zaZ (cT 2) 260 mf), (gS, zaN (cT 0) 260 mst), (gE, zaN (cT 0) 260 me)]) := hD
  refine lv_aload_n hx hb d_Md_finish_20 rfl (lv_at hl 0 rfl) ?_
  refine va_get (D := (dC, dI)) (ci := 6) (v := .ref gE) (C := R_Md) (T := F_Md) (N := 21) hx hb hts i_Md hown hK hP 0 rfl rfl 16 (by decide) (hts _ wd_579) (fun _ h9 => h9) rfl d_Md_finish_21 ?_
  refine lv_aload_n hx hb d_Md_finish_24 rfl (lv_at hl 0 rfl) ?_
  refine va_get (D := (dC, dI)) (ci := 6) (v := .int (nI (mB + 1))) (C := R_Md) (T := F_Md) (N := 21) hx hb hts i_Md hown hK hP 0 rfl rfl 18 (by decide) (hts _ wd_581) (fun _ h9 => h9) rfl d_Md_finish_25 ?_
  refine lv_aload_n hx hb d_Md_finish_28 rfl (lv_at hl 0 rfl) ?_
  refine va_get (D := (dC, dI)) (ci := 6) (v := .int (nI mL)) (C := R_Md) (T := F_Md) (N := 21) hx hb hts i_Md hown hK hP 0 rfl rfl 5 (by decide) (hts _ wd_568) (fun _ h9 => h9) rfl d_Md_finish_29 ?_
  refine zn_iastN hx hb hK hP hD hS 4 0 rfl rfl (i := mB + 1) (x := mL) (by omega) (by omega) d_Md_finish_32 (fun H locs hP hD hS => ?_)
  have hP : va_P (dC, dI) vwCl ([(h0, zoMd mS mQ gK gV gH mL mo gM mch mA mP gI gR gT gF gS gE gC (mB + 1) ml mz), (gT, zaZ (cT 2) 260 (va_up mt (mB + 1) true)), (gF, zaZ (cT 2) 260 mf), (gS, zaN (cT 0) 260 mst), (gE, zaN (cT 0) 260 (va_up me (mB + 1) mL))]) H := hP
  have hD : va_D A ([(h0, zoMd mS mQ gK gV gH mL mo gM mch mA mP gI gR gT gF gS gE gC (mB + 1) ml mz), (gT, zaZ (cT 2) 260 (va_up mt (mB + 1) true)), (gF, zaZ (cT 2) 260 mf), (gS, zaN (cT 0) 260 mst), (gE, zaN (cT 0) 260 (va_up me (mB + 1) mL))]) := hD
  refine lv_aload_n hx hb d_Md_finish_33 rfl (lv_at hl 0 rfl) ?_
  refine lv_bipush (v := (-2)) hx hb d_Md_finish_34 (by decide) ?_
  refine va_put (D := (dC, dI)) (ci := 6) (v := .int (-2)) (ty := .int) (C := R_Md) (T := F_Md) (N := 21) hx hb hts i_Md t_Md t_Md_ok n_Md hown hK hP hD hS 0 rfl rfl 19 (by decide) (hts _ wd_582) (fun _ h9 => h9) rfl (by decide +kernel) rfl rfl (Nat.le_of_ble_eq_true rfl) d_Md_finish_36 (fun H locs hP hD hS => ?_)
  have hP : va_P (dC, dI) vwCl ([(h0, zoMd mS mQ gK gV gH mL mo gM mch mA mP gI gR gT gF gS gE gC (mB + 1) (-2) mz), (gT, zaZ (cT 2) 260 (va_up mt (mB + 1) true)), (gF, zaZ (cT 2) 260 mf), (gS, zaN (cT 0) 260 mst), (gE, zaN (cT 0) 260 (va_up me (mB + 1) mL))]) H := hP
  have hD : va_D A ([(h0, zoMd mS mQ gK gV gH mL mo gM mch mA mP gI gR gT gF gS gE gC (mB + 1) (-2) mz), (gT, zaZ (cT 2) 260 (va_up mt (mB + 1) true)), (gF, zaZ (cT 2) 260 mf), (gS, zaN (cT 0) 260 mst), (gE, zaN (cT 0) 260 (va_up me (mB + 1) mL))]) := hD
  refine lv_aload_n hx hb d_Md_finish_39 rfl (lv_at hl 0 rfl) ?_
  refine va_get (D := (dC, dI)) (ci := 6) (v := .ref gF) (C := R_Md) (T := F_Md) (N := 21) hx hb hts i_Md hown hK hP 0 rfl rfl 14 (by decide) (hts _ wd_577) (fun _ h9 => h9) rfl d_Md_finish_40 ?_
  refine lv_aload_n hx hb d_Md_finish_43 rfl (lv_at hl 0 rfl) ?_
  refine va_get (D := (dC, dI)) (ci := 6) (v := .int (nI (mB + 1))) (C := R_Md) (T := F_Md) (N := 21) hx hb hts i_Md hown hK hP 0 rfl rfl 18 (by decide) (hts _ wd_581) (fun _ h9 => h9) rfl d_Md_finish_44 ?_
  refine zn_zald hx hb hK hP 2 2 rfl rfl (i := mB + 1) (by omega) (by omega) d_Md_finish_47 ?_
  refine zb_if_eq (tgt := 62) hx hb d_Md_finish_48 (by decide) (fun c_48 => ?_) (fun c_48 => ?_)
  · have hP9 := hP.sub (ws' := [(h0, zoMd mS mQ gK gV gH mL mo gM mch mA mP gI gR gT gF gS gE gC (mB + 1) (-2) mz), (gT, zaZ (cT 2) 260 (va_up mt (mB + 1) true)), (gF, zaZ (cT 2) 260 mf), (gS, zaN (cT 0) 260 mst), (gE, zaN (cT 0) 260 (va_up me (mB + 1) mL))]) [0, 1, 2, 3, 4] rfl
    have hD9 := hD.sub (ws' := [(h0, zoMd mS mQ gK gV gH mL mo gM mch mA mP gI gR gT gF gS gE gC (mB + 1) (-2) mz), (gT, zaZ (cT 2) 260 (va_up mt (mB + 1) true)), (gF, zaZ (cT 2) 260 mf), (gS, zaN (cT 0) 260 mst), (gE, zaN (cT 0) 260 (va_up me (mB + 1) mL))]) [0, 1, 2, 3, 4] (by decide) rfl
    exact W.vret hx hb hr (fun t ht hW => ⟨⟨(), trivial, rfl, by rw [ht]; exact hP9, hD9⟩, hS.F ht⟩) hS.2.2 d_Md_finish_62
  · refine lv_aload_n hx hb d_Md_finish_51 rfl (lv_at hl 0 rfl) ?_
    refine zw_R (r := .int (nI (zful (va_up mt (mB + 1) true) mf (mB + 1)))) (va_runV (As := []) (rest := []) ⟨hx, hb, hml, hown, hts⟩ (c_Md_fulls l dC dI cT h0 mS mQ gK gV gH mL mo gM mch mA mP gI gR gT gF gS gE gC (mB + 1) (-2) mz (va_up mt (mB + 1) true) mf (by first | omega | assumption)) (cwV 0 hts (zgV wd_688 wd_690 wp_14 wd_11 wd_691) rfl rfl rfl (by decide +kernel) ⟨Nat.le_of_ble_eq_true rfl, Nat.le_of_ble_eq_true rfl⟩) ⟨zPreR_blind, va_recv hK hP (ci := 6) (q0 := 0) rfl rfl, zp_R hK hE (zSub (X := [(h0, zoMd mS mQ gK gV gH mL mo gM mch mA mP gI gR gT gF gS gE gC (mB + 1) (-2) mz), (gT, zaZ (cT 2) 260 (va_up mt (mB + 1) true)), (gF, zaZ (cT 2) 260 mf), (gS, zaN (cT 0) 260 mst), (gE, zaN (cT 0) 260 (va_up me (mB + 1) mL))]) (pl := []) hP [0, 1, 2] rfl)⟩ rfl rfl hl.1 rfl (lv_room (Nat.le_of_ble_eq_true rfl)) d_Md_finish_52 ⟨Nat.le_of_ble_eq_true rfl, Nat.le_of_ble_eq_true rfl⟩) ?_
    refine lv_aload_n hx hb d_Md_finish_55 rfl (lv_at hl 0 rfl) ?_
    refine va_get (D := (dC, dI)) (ci := 6) (v := .int (nI mQ)) (C := R_Md) (T := F_Md) (N := 21) hx hb hts i_Md hown hK hP 0 rfl rfl 1 (by decide) (hts _ wd_564) (fun _ h9 => h9) rfl d_Md_finish_56 ?_
    refine zn_icmp_gt (tgt := 63) hx hb (a := zful (va_up mt (mB + 1) true) mf (mB + 1)) (b := mQ) (by omega) (by omega) d_Md_finish_59 (by decide) (fun c_59 => ?_) (fun c_59 => ?_)
    · exact absurd hnd (fun q => q.elim (fun q1 => by rw [c_48] at q1; exact absurd q1 (by decide)) (fun q2 => by omega))
    · have hP9 := hP.sub (ws' := [(h0, zoMd mS mQ gK gV gH mL mo gM mch mA mP gI gR gT gF gS gE gC (mB + 1) (-2) mz), (gT, zaZ (cT 2) 260 (va_up mt (mB + 1) true)), (gF, zaZ (cT 2) 260 mf), (gS, zaN (cT 0) 260 mst), (gE, zaN (cT 0) 260 (va_up me (mB + 1) mL))]) [0, 1, 2, 3, 4] rfl
      have hD9 := hD.sub (ws' := [(h0, zoMd mS mQ gK gV gH mL mo gM mch mA mP gI gR gT gF gS gE gC (mB + 1) (-2) mz), (gT, zaZ (cT 2) 260 (va_up mt (mB + 1) true)), (gF, zaZ (cT 2) 260 mf), (gS, zaN (cT 0) 260 mst), (gE, zaN (cT 0) 260 (va_up me (mB + 1) mL))]) [0, 1, 2, 3, 4] (by decide) rfl
      exact W.vret hx hb hr (fun t ht hW => ⟨⟨(), trivial, rfl, by rw [ht]; exact hP9, hD9⟩, hS.F ht⟩) hS.2.2 d_Md_finish_62
set_option maxHeartbeats 4000000 in
set_option maxRecDepth 100000 in
theorem c_Md_finish_drop (l : Launch) (dC : Nat → ClassId) (dI : Nat → Nat → Nat) (cT : Nat → ClassId) (sz : Nat) (h0 : Nat) (mS : Nat) (mQ : Nat) (gK : Nat) (gV : Nat) (gH : Nat) (mL : Nat) (mo : Bool) (gM : Nat) (mch : Nat) (mA : Nat) (mP : Nat) (gI : Nat) (gR : Nat) (gT : Nat) (gF : Nat) (gS : Nat) (gE : Nat) (gC : Nat) (mB : Nat) (ml : Int32) (mz : Int32) (r1 : Nat) (r2 : Nat) (mt : Nat → Bool) (mf : Nat → Bool) (mst : Nat → Nat) (me : Nat → Nat) (hB : mB ≤ 255) (hL : mL ≤ 1000) (hf : mf (mB + 1) = true) (hQ : mQ ≤ 3) (hgt : mQ < zful (va_up mt (mB + 1) true) mf (mB + 1)) (hs0 : 0 < mS) (hs8 : mS ≤ 8) (hst : mst r2 ≤ 1000) (hA : mA < 2 ^ 30) (hP0 : mP < 2 ^ 30) (hdv : mst r2 / mS ≤ 1000) (h1a : 1 ≤ r1) (h1b : r1 ≤ mB + 1) (h1c : ∀ b, 1 ≤ b → b < r1 → ¬ ((va_up mt (mB + 1) true) b = true ∧ mf b = true)) (h1d : r1 ≤ mB + 1 → (va_up mt (mB + 1) true) r1 = true ∧ mf r1 = true) (h2a : r1 + 1 ≤ r2) (h2b : r2 ≤ mB + 1) (h2c : ∀ b, r1 + 1 ≤ b → b < r2 → ¬ ((va_up mt (mB + 1) true) b = true ∧ mf b = true)) (h2d : r2 ≤ mB + 1 → (va_up mt (mB + 1) true) r2 = true ∧ mf r2 = true) : Met l y_Md_finish w_Md_finish ({ frames := 1, cells := 0, slots := 0, locals := 22 } : Room) (zPre (dC, dI) vwCl (zT cT) [.ref h0] ([(h0, zoMd mS mQ gK gV gH mL mo gM mch mA mP gI gR gT gF gS gE gC mB ml mz), (gT, zaZ (cT 2) 260 mt), (gF, zaZ (cT 2) 260 mf), (gS, zaN (cT 0) 260 mst), (gE, zaN (cT 0) 260 me)]) sz) (zQ (dC, dI) vwCl (S := Unit) (fun zu => True) (fun zu => none) (fun zu => [(h0, zoMd mS mQ gK gV gH mL mo gM mch mA (max mP (min mA (mst r2 / mS))) gI gR gT gF gS gE gC (mB + 1) (-2) mz), (gT, zaZ (cT 2) 260 (zdr (va_up mt (mB + 1) true) r2)), (gF, zaZ (cT 2) 260 mf), (gS, zaN (cT 0) 260 mst), (gE, zaN (cT 0) 260 (va_up me (mB + 1) mL))]) (va_A ([(h0, zoMd mS mQ gK gV gH mL mo gM mch mA mP gI gR gT gF gS gE gC mB ml mz), (gT, zaZ (cT 2) 260 mt), (gF, zaZ (cT 2) 260 mf), (gS, zaN (cT 0) 260 mst), (gE, zaN (cT 0) 260 me)]) sz)) 0 0 (va_A ([(h0, zoMd mS mQ gK gV gH mL mo gM mch mA mP gI gR gT gF gS gE gC mB ml mz), (gT, zaZ (cT 2) 260 mt), (gF, zaZ (cT 2) 260 mf), (gS, zaN (cT 0) 260 mst), (gE, zaN (cT 0) 260 me)]) sz) := by
  refine Met.ofW (cc := b_Md_finish) (maxL := 3) (ret := none) (by decide) rfl ?_
  intro p e s m args below meth c s₁ B hml hv
  obtain ⟨rfl, hsz, hP, hK, hD0, hE⟩ := hv
  have hx := B.exec
  have hb := B.bytes
  have hr := B.returns
  have hts := fun w h => atoms_spec (ws := w_Md_finish) B.pre w (List.mem_cons_of_mem _ h)
  have hown : s.vm.findClass R_Md = some m.cls := findClass_of_methodNamed B.named
  have hlocks := B.notSynchronized
  subst hsz
  have hD := hD0.self (sz := s.heap.size)
  generalize hAe : va_A ([(h0, zoMd mS mQ gK gV gH mL mo gM mch mA mP gI gR gT gF gS gE gC mB ml mz), (gT, zaZ (cT 2) 260 mt), (gF, zaZ (cT 2) 260 mf), (gS, zaN (cT 0) 260 mst), (gE, zaN (cT 0) 260 me)]) s.heap.size = A at hD ⊢
  have hA : ∀ q : Nat, s.heap.size ≤ q → A q := fun q h => by rw [← hAe]; exact Or.inr h
  have hS : va_S A s.heap s.heap [] := va_S.rf
  have hl := lv_entry ([.ref h0]) (n := 3) (Nat.le_of_ble_eq_true rfl)
  rw [lg_entry_eq]
  generalize (lg_sl ([.ref h0]) ++ List.replicate (3 - (lg_sl ([.ref h0])).length) Slot.unset).toArray = ls at hl ⊢
  have hl : lv_has ls 3 [(0, .ref h0)] := hl
  have hzf := zful_le (va_up mt (mB + 1) true) mf (mB + 1)
  refine lv_aload_n hx hb d_Md_finish_0 rfl (lv_at hl 0 rfl) ?_
  refine lv_dup hx hb d_Md_finish_1 rfl ?_
  refine va_get (D := (dC, dI)) (ci := 6) (v := .int (nI mB)) (C := R_Md) (T := F_Md) (N := 21) hx hb hts i_Md hown hK hP 0 rfl rfl 18 (by decide) (hts _ wd_581) (fun _ h9 => h9) rfl d_Md_finish_2 ?_
  refine lv_iconst (v := (nI 1)) hx hb d_Md_finish_5 (by decide) ?_
  refine zn_iadd hx hb d_Md_finish_6 ?_
  refine va_put (D := (dC, dI)) (ci := 6) (v := .int (nI (mB + 1))) (ty := .int) (C := R_Md) (T := F_Md) (N := 21) hx hb hts i_Md t_Md t_Md_ok n_Md hown hK hP hD hS 0 rfl rfl 18 (by decide) (hts _ wd_581) (fun _ h9 => h9) rfl (by decide +kernel) rfl rfl (Nat.le_of_ble_eq_true rfl) d_Md_finish_7 (fun H locs hP hD hS => ?_)
  have hP : va_P (dC, dI) vwCl ([(h0, zoMd mS mQ gK gV gH mL mo gM mch mA mP gI gR gT gF gS gE gC (mB + 1) ml mz), (gT, zaZ (cT 2) 260 mt), (gF, zaZ (cT 2) 260 mf), (gS, zaN (cT 0) 260 mst), (gE, zaN (cT 0) 260 me)]) H := hP
  have hD : va_D A ([(h0, zoMd mS mQ gK gV gH mL mo gM mch mA mP gI gR gT gF gS gE gC (mB + 1) ml mz), (gT, zaZ (cT 2) 260 mt), (gF, zaZ (cT 2) 260 mf), (gS, zaN (cT 0) 260 mst), (gE, zaN (cT 0) 260 me)]) := hD
  refine lv_aload_n hx hb d_Md_finish_10 rfl (lv_at hl 0 rfl) ?_
  refine va_get (D := (dC, dI)) (ci := 6) (v := .ref gT) (C := R_Md) (T := F_Md) (N := 21) hx hb hts i_Md hown hK hP 0 rfl rfl 13 (by decide) (hts _ wd_576) (fun _ h9 => h9) rfl d_Md_finish_11 ?_
  refine lv_aload_n hx hb d_Md_finish_14 rfl (lv_at hl 0 rfl) ?_
  refine va_get (D := (dC, dI)) (ci := 6) (v := .int (nI (mB + 1))) (C := R_Md) (T := F_Md) (N := 21) hx hb hts i_Md hown hK hP 0 rfl rfl 18 (by decide) (hts _ wd_581) (fun _ h9 => h9) rfl d_Md_finish_15 ?_
  refine lv_iconst (v := (nI 1)) hx hb d_Md_finish_18 (by decide) ?_
  refine W.eq (g2 := F0 m 19 ls [.int (zb true), .int (nI (mB + 1)), .ref gT]) rfl ?_
  refine zn_zastB hx hb hK hP hD hS 1 2 rfl rfl (i := mB + 1) (x := true) (by omega) (by omega) d_Md_finish_19 (fun H locs hP hD hS => ?_)
  have hP : va_P (dC, dI) vwCl ([(h0, zoMd mS mQ gK gV gH mL mo gM mch mA mP gI gR gT gF gS gE gC (mB + 1) ml mz), (gT, zaZ (cT 2) 260 (va_up mt (mB + 1) true)), (gF, zaZ (cT 2) 260 mf), (gS, zaN (cT 0) 260 mst), (gE, zaN (cT 0) 260 me)]) H := hP
  have hD : va_D A ([(h0, zoMd mS mQ gK gV gH mL mo gM mch mA mP gI gR gT gF gS gE gC (mB + 1) ml mz), (gT, zaZ (cT 2) 260 (va_up mt (mB + 1) true)), (gF, zaZ (cT 2) 260 mf), (gS, zaN (cT 0) 260 mst), (gE, zaN (cT 0) 260 me)]) := hD
  refine lv_aload_n hx hb d_Md_finish_20 rfl (lv_at hl 0 rfl) ?_
  refine va_get (D := (dC, dI)) (ci := 6) (v := .ref gE) (C := R_Md) (T := F_Md) (N := 21) hx hb hts i_Md hown hK hP 0 rfl rfl 16 (by decide) (hts _ wd_579) (fun _ h9 => h9) rfl d_Md_finish_21 ?_
  refine lv_aload_n hx hb d_Md_finish_24 rfl (lv_at hl 0 rfl) ?_
  refine va_get (D := (dC, dI)) (ci := 6) (v := .int (nI (mB + 1))) (C := R_Md) (T := F_Md) (N := 21) hx hb hts i_Md hown hK hP 0 rfl rfl 18 (by decide) (hts _ wd_581) (fun _ h9 => h9) rfl d_Md_finish_25 ?_
  refine lv_aload_n hx hb d_Md_finish_28 rfl (lv_at hl 0 rfl) ?_
  refine va_get (D := (dC, dI)) (ci := 6) (v := .int (nI mL)) (C := R_Md) (T := F_Md) (N := 21) hx hb hts i_Md hown hK hP 0 rfl rfl 5 (by decide) (hts _ wd_568) (fun _ h9 => h9) rfl d_Md_finish_29 ?_
  refine zn_iastN hx hb hK hP hD hS 4 0 rfl rfl (i := mB + 1) (x := mL) (by omega) (by omega) d_Md_finish_32 (fun H locs hP hD hS => ?_)
  have hP : va_P (dC, dI) vwCl ([(h0, zoMd mS mQ gK gV gH mL mo gM mch mA mP gI gR gT gF gS gE gC (mB + 1) ml mz), (gT, zaZ (cT 2) 260 (va_up mt (mB + 1) true)), (gF, zaZ (cT 2) 260 mf), (gS, zaN (cT 0) 260 mst), (gE, zaN (cT 0) 260 (va_up me (mB + 1) mL))]) H := hP
  have hD : va_D A ([(h0, zoMd mS mQ gK gV gH mL mo gM mch mA mP gI gR gT gF gS gE gC (mB + 1) ml mz), (gT, zaZ (cT 2) 260 (va_up mt (mB + 1) true)), (gF, zaZ (cT 2) 260 mf), (gS, zaN (cT 0) 260 mst), (gE, zaN (cT 0) 260 (va_up me (mB + 1) mL))]) := hD
  refine lv_aload_n hx hb d_Md_finish_33 rfl (lv_at hl 0 rfl) ?_
  refine lv_bipush (v := (-2)) hx hb d_Md_finish_34 (by decide) ?_
  refine va_put (D := (dC, dI)) (ci := 6) (v := .int (-2)) (ty := .int) (C := R_Md) (T := F_Md) (N := 21) hx hb hts i_Md t_Md t_Md_ok n_Md hown hK hP hD hS 0 rfl rfl 19 (by decide) (hts _ wd_582) (fun _ h9 => h9) rfl (by decide +kernel) rfl rfl (Nat.le_of_ble_eq_true rfl) d_Md_finish_36 (fun H locs hP hD hS => ?_)
  have hP : va_P (dC, dI) vwCl ([(h0, zoMd mS mQ gK gV gH mL mo gM mch mA mP gI gR gT gF gS gE gC (mB + 1) (-2) mz), (gT, zaZ (cT 2) 260 (va_up mt (mB + 1) true)), (gF, zaZ (cT 2) 260 mf), (gS, zaN (cT 0) 260 mst), (gE, zaN (cT 0) 260 (va_up me (mB + 1) mL))]) H := hP
  have hD : va_D A ([(h0, zoMd mS mQ gK gV gH mL mo gM mch mA mP gI gR gT gF gS gE gC (mB + 1) (-2) mz), (gT, zaZ (cT 2) 260 (va_up mt (mB + 1) true)), (gF, zaZ (cT 2) 260 mf), (gS, zaN (cT 0) 260 mst), (gE, zaN (cT 0) 260 (va_up me (mB + 1) mL))]) := hD
  refine lv_aload_n hx hb d_Md_finish_39 rfl (lv_at hl 0 rfl) ?_
  refine va_get (D := (dC, dI)) (ci := 6) (v := .ref gF) (C := R_Md) (T := F_Md) (N := 21) hx hb hts i_Md hown hK hP 0 rfl rfl 14 (by decide) (hts _ wd_577) (fun _ h9 => h9) rfl d_Md_finish_40 ?_
  refine lv_aload_n hx hb d_Md_finish_43 rfl (lv_at hl 0 rfl) ?_
  refine va_get (D := (dC, dI)) (ci := 6) (v := .int (nI (mB + 1))) (C := R_Md) (T := F_Md) (N := 21) hx hb hts i_Md hown hK hP 0 rfl rfl 18 (by decide) (hts _ wd_581) (fun _ h9 => h9) rfl d_Md_finish_44 ?_
  refine zn_zald hx hb hK hP 2 2 rfl rfl (i := mB + 1) (by omega) (by omega) d_Md_finish_47 ?_
  refine zb_if_eq (tgt := 62) hx hb d_Md_finish_48 (by decide) (fun c_48 => absurd c_48 (by rw [hf]; decide)) (fun c_48 => ?_)
  refine lv_aload_n hx hb d_Md_finish_51 rfl (lv_at hl 0 rfl) ?_
  refine zw_R (r := .int (nI (zful (va_up mt (mB + 1) true) mf (mB + 1)))) (va_runV (As := []) (rest := []) ⟨hx, hb, hml, hown, hts⟩ (c_Md_fulls l dC dI cT h0 mS mQ gK gV gH mL mo gM mch mA mP gI gR gT gF gS gE gC (mB + 1) (-2) mz (va_up mt (mB + 1) true) mf (by first | omega | assumption)) (cwV 0 hts (zgV wd_688 wd_690 wp_14 wd_11 wd_691) rfl rfl rfl (by decide +kernel) ⟨Nat.le_of_ble_eq_true rfl, Nat.le_of_ble_eq_true rfl⟩) ⟨zPreR_blind, va_recv hK hP (ci := 6) (q0 := 0) rfl rfl, zp_R hK hE (zSub (X := [(h0, zoMd mS mQ gK gV gH mL mo gM mch mA mP gI gR gT gF gS gE gC (mB + 1) (-2) mz), (gT, zaZ (cT 2) 260 (va_up mt (mB + 1) true)), (gF, zaZ (cT 2) 260 mf), (gS, zaN (cT 0) 260 mst), (gE, zaN (cT 0) 260 (va_up me (mB + 1) mL))]) (pl := []) hP [0, 1, 2] rfl)⟩ rfl rfl hl.1 rfl (lv_room (Nat.le_of_ble_eq_true rfl)) d_Md_finish_52 ⟨Nat.le_of_ble_eq_true rfl, Nat.le_of_ble_eq_true rfl⟩) ?_
  refine lv_aload_n hx hb d_Md_finish_55 rfl (lv_at hl 0 rfl) ?_
  refine va_get (D := (dC, dI)) (ci := 6) (v := .int (nI mQ)) (C := R_Md) (T := F_Md) (N := 21) hx hb hts i_Md hown hK hP 0 rfl rfl 1 (by decide) (hts _ wd_564) (fun _ h9 => h9) rfl d_Md_finish_56 ?_
  refine zn_icmp_gt (tgt := 63) hx hb (a := zful (va_up mt (mB + 1) true) mf (mB + 1)) (b := mQ) (by omega) (by omega) d_Md_finish_59 (by decide) (fun c_59 => ?_) (fun c_59 => absurd c_59 (by omega))
  refine lv_aload_n hx hb d_Md_finish_63 rfl (lv_at hl 0 rfl) ?_
  refine lv_aload_n hx hb d_Md_finish_64 rfl (lv_at hl 0 rfl) ?_
  refine lv_iconst (v := (nI 1)) hx hb d_Md_finish_65 (by decide) ?_
  refine zw_R (r := .int (nI r1)) (va_runV (As := [.int (nI 1)]) (rest := [.ref h0]) ⟨hx, hb, hml, hown, hts⟩ (c_Md_firstFull l dC dI cT h0 mS mQ gK gV gH mL mo gM mch mA mP gI gR gT gF gS gE gC (mB + 1) (-2) mz 1 r1 (va_up mt (mB + 1) true) mf (by first | omega | assumption) (by first | omega | assumption) (by first | omega | assumption) (by first | omega | assumption) (by first | omega | assumption)) (cwV 1 hts (zgV wd_700 wd_702 wp_16 wd_11 wd_703) rfl rfl rfl (by decide +kernel) ⟨Nat.le_of_ble_eq_true rfl, Nat.le_of_ble_eq_true rfl⟩) ⟨zPreR_blind, va_recv hK hP (ci := 6) (q0 := 0) rfl rfl, zp_R hK hE (zSub (X := [(h0, zoMd mS mQ gK gV gH mL mo gM mch mA mP gI gR gT gF gS gE gC (mB + 1) (-2) mz), (gT, zaZ (cT 2) 260 (va_up mt (mB + 1) true)), (gF, zaZ (cT 2) 260 mf), (gS, zaN (cT 0) 260 mst), (gE, zaN (cT 0) 260 (va_up me (mB + 1) mL))]) (pl := []) hP [0, 1, 2] rfl)⟩ rfl rfl hl.1 rfl (lv_room (Nat.le_of_ble_eq_true rfl)) d_Md_finish_66 ⟨Nat.le_of_ble_eq_true rfl, Nat.le_of_ble_eq_true rfl⟩) ?_
  refine lv_iconst (v := (nI 1)) hx hb d_Md_finish_69 (by decide) ?_
  refine zn_iadd hx hb d_Md_finish_70 ?_
  refine zw_R (r := .int (nI r2)) (va_runV (As := [.int (nI (r1 + 1))]) (rest := []) ⟨hx, hb, hml, hown, hts⟩ (c_Md_firstFull l dC dI cT h0 mS mQ gK gV gH mL mo gM mch mA mP gI gR gT gF gS gE gC (mB + 1) (-2) mz (r1 + 1) r2 (va_up mt (mB + 1) true) mf (by first | omega | assumption) (by first | omega | assumption) (by first | omega | assumption) (by first | omega | assumption) (by first | omega | assumption)) (cwV 1 hts (zgV wd_700 wd_702 wp_16 wd_11 wd_703) rfl rfl rfl (by decide +kernel) ⟨Nat.le_of_ble_eq_true rfl, Nat.le_of_ble_eq_true rfl⟩) ⟨zPreR_blind, va_recv hK hP (ci := 6) (q0 := 0) rfl rfl, zp_R hK hE (zSub (X := [(h0, zoMd mS mQ gK gV gH mL mo gM mch mA mP gI gR gT gF gS gE gC (mB + 1) (-2) mz), (gT, zaZ (cT 2) 260 (va_up mt (mB + 1) true)), (gF, zaZ (cT 2) 260 mf), (gS, zaN (cT 0) 260 mst), (gE, zaN (cT 0) 260 (va_up me (mB + 1) mL))]) (pl := []) hP [0, 1, 2] rfl)⟩ rfl rfl hl.1 rfl (lv_room (Nat.le_of_ble_eq_true rfl)) d_Md_finish_71 ⟨Nat.le_of_ble_eq_true rfl, Nat.le_of_ble_eq_true rfl⟩) ?_
  refine lv_istore_n (lv' := [(1, .int (nI r2)), (0, .ref h0)]) hx hb d_Md_finish_74 rfl hl (by decide) rfl (fun ls hl => ?_)
  refine lv_iconst (v := (nI 1)) hx hb d_Md_finish_75 (by decide) ?_
  refine lv_istore_n (lv' := [(2, .int (nI 1)), (1, .int (nI r2)), (0, .ref h0)]) hx hb d_Md_finish_76 rfl hl (by decide) rfl (fun ls hl => ?_)
  have loop_77 : ∀ (fu : Nat) (i : Nat) (g : Nat → Bool), r2 - i < fu → (1 ≤ i) → (i ≤ r2) → (g = zdr (va_up mt (mB + 1) true) i) → ∀ (H : Heap) (locs : List Loc), va_P (dC, dI) vwCl ([(h0, zoMd mS mQ gK gV gH mL mo gM mch mA mP gI gR gT gF gS gE gC (mB + 1) (-2) mz), (gT, zaZ (cT 2) 260 g), (gF, zaZ (cT 2) 260 mf), (gS, zaN (cT 0) 260 mst), (gE, zaN (cT 0) 260 (va_up me (mB + 1) mL))]) H → va_D A ([(h0, zoMd mS mQ gK gV gH mL mo gM mch mA mP gI gR gT gF gS gE gC (mB + 1) (-2) mz), (gT, zaZ (cT 2) 260 g), (gF, zaZ (cT 2) 260 mf), (gS, zaN (cT 0) 260 mst), (gE, zaN (cT 0) 260 (va_up me (mB + 1) mL))]) → va_S A s.heap H locs → ∀ (ls : Array Slot), lv_has ls 3 [(0, .ref h0), (1, .int (nI r2)), (2, .int (nI i))] → W p l e (headSpec w_Md_finish ({ frames := 1, cells := 0, slots := 0, locals := 22 } : Room)).room s m ([.ref h0] : List Value).toArray below meth c H locs 0 0 (MQ below (zQ (dC, dI) vwCl (S := Unit) (fun zu => True) (fun zu => none) (fun zu => [(h0, zoMd mS mQ gK gV gH mL mo gM mch mA (max mP (min mA (mst r2 / mS))) gI gR gT gF gS gE gC (mB + 1) (-2) mz), (gT, zaZ (cT 2) 260 (zdr (va_up mt (mB + 1) true) r2)), (gF, zaZ (cT 2) 260 mf), (gS, zaN (cT 0) 260 mst), (gE, zaN (cT 0) 260 (va_up me (mB + 1) mL))]) A) ([.ref h0] : List Value).toArray s 0 0 A) (F0 m 77 ls []) := by
    intro fu
    induction fu with
    | zero => intro _ _ hm; exact absurd hm (Nat.not_lt_zero _)
    | succ fu ih_77 =>
      intro i g hm_77 h1 h2 hg H locs hP hD hS ls hl
      refine lv_iload_n hx hb d_Md_finish_77 rfl (lv_at hl 2 rfl) ?_
      refine lv_iload_n hx hb d_Md_finish_78 rfl (lv_at hl 1 rfl) ?_
      refine zn_icmp_ge (tgt := 95) hx hb (a := i) (b := r2) (by omega) (by omega) d_Md_finish_79 (by decide) (fun c_79 => ?_) (fun c_79 => ?_)
      · refine lv_aload_n hx hb d_Md_finish_95 rfl (lv_at hl 0 rfl) ?_
        refine va_get (D := (dC, dI)) (ci := 6) (v := .ref gS) (C := R_Md) (T := F_Md) (N := 21) hx hb hts i_Md hown hK hP 0 rfl rfl 15 (by decide) (hts _ wd_578) (fun _ h9 => h9) rfl d_Md_finish_96 ?_
        refine lv_iload_n hx hb d_Md_finish_99 rfl (lv_at hl 1 rfl) ?_
        refine zn_iald hx hb hK hP 3 0 rfl rfl (i := r2) (by omega) (by omega) d_Md_finish_100 ?_
        refine lv_aload_n hx hb d_Md_finish_101 rfl (lv_at hl 0 rfl) ?_
        refine va_get (D := (dC, dI)) (ci := 6) (v := .int (nI mS)) (C := R_Md) (T := F_Md) (N := 21) hx hb hts i_Md hown hK hP 0 rfl rfl 0 (by decide) (hts _ wd_563) (fun _ h9 => h9) rfl d_Md_finish_102 ?_
        refine zn_idiv hx hb (by omega) (by omega) (by omega) d_Md_finish_105 ?_
        refine lv_istore_n (lv' := [(2, .int (nI ((mst r2) / mS))), (0, .ref h0), (1, .int (nI r2))]) hx hb d_Md_finish_106 rfl hl (by decide) rfl (fun ls hl => ?_)
        refine lv_iload_n hx hb d_Md_finish_107 rfl (lv_at hl 0 rfl) ?_
        refine lv_aload_n hx hb d_Md_finish_108 rfl (lv_at hl 1 rfl) ?_
        refine va_get (D := (dC, dI)) (ci := 6) (v := .int (nI mA)) (C := R_Md) (T := F_Md) (N := 21) hx hb hts i_Md hown hK hP 0 rfl rfl 9 (by decide) (hts _ wd_572) (fun _ h9 => h9) rfl d_Md_finish_109 ?_
        refine zn_icmp_le (tgt := 120) hx hb (a := (mst r2) / mS) (b := mA) (by omega) (by omega) d_Md_finish_112 (by decide) (fun c_112 => ?_) (fun c_112 => ?_)
        · refine lv_iload_n hx hb d_Md_finish_120 rfl (lv_at hl 0 rfl) ?_
          refine lv_aload_n hx hb d_Md_finish_121 rfl (lv_at hl 1 rfl) ?_
          refine va_get (D := (dC, dI)) (ci := 6) (v := .int (nI mP)) (C := R_Md) (T := F_Md) (N := 21) hx hb hts i_Md hown hK hP 0 rfl rfl 10 (by decide) (hts _ wd_573) (fun _ h9 => h9) rfl d_Md_finish_122 ?_
          refine zn_icmp_le (tgt := 133) hx hb (a := (mst r2) / mS) (b := mP) (by omega) (by omega) d_Md_finish_125 (by decide) (fun c_125 => ?_) (fun c_125 => ?_)
          · have hP9 := hP.sub (ws' := [(h0, zoMd mS mQ gK gV gH mL mo gM mch mA mP gI gR gT gF gS gE gC (mB + 1) (-2) mz), (gT, zaZ (cT 2) 260 g), (gF, zaZ (cT 2) 260 mf), (gS, zaN (cT 0) 260 mst), (gE, zaN (cT 0) 260 (va_up me (mB + 1) mL))]) [0, 1, 2, 3, 4] rfl
            have hD9 := hD.sub (ws' := [(h0, zoMd mS mQ gK gV gH mL mo gM mch mA mP gI gR gT gF gS gE gC (mB + 1) (-2) mz), (gT, zaZ (cT 2) 260 g), (gF, zaZ (cT 2) 260 mf), (gS, zaN (cT 0) 260 mst), (gE, zaN (cT 0) 260 (va_up me (mB + 1) mL))]) [0, 1, 2, 3, 4] (by decide) rfl
            have hg9 : g = zdr (va_up mt (mB + 1) true) r2 := by rw [hg, show i = r2 by omega]
            rw [hg9] at hP9 hD9
            have hP9 : va_P (dC, dI) vwCl ([(h0, zoMd mS mQ gK gV gH mL mo gM mch mA (max mP (min mA (mst r2 / mS))) gI gR gT gF gS gE gC (mB + 1) (-2) mz), (gT, zaZ (cT 2) 260 (zdr (va_up mt (mB + 1) true) r2)), (gF, zaZ (cT 2) 260 mf), (gS, zaN (cT 0) 260 mst), (gE, zaN (cT 0) 260 (va_up me (mB + 1) mL))]) H := by rw [Nat.min_eq_right c_112, Nat.max_eq_left c_125]; exact hP9
            have hD9 : va_D A ([(h0, zoMd mS mQ gK gV gH mL mo gM mch mA (max mP (min mA (mst r2 / mS))) gI gR gT gF gS gE gC (mB + 1) (-2) mz), (gT, zaZ (cT 2) 260 (zdr (va_up mt (mB + 1) true) r2)), (gF, zaZ (cT 2) 260 mf), (gS, zaN (cT 0) 260 mst), (gE, zaN (cT 0) 260 (va_up me (mB + 1) mL))]) := by rw [Nat.min_eq_right c_112, Nat.max_eq_left c_125]; exact hD9
            exact W.vret hx hb hr (fun t ht hW => ⟨⟨(), trivial, rfl, by rw [ht]; exact hP9, hD9⟩, hS.F ht⟩) hS.2.2 d_Md_finish_133
          · refine lv_aload_n hx hb d_Md_finish_128 rfl (lv_at hl 1 rfl) ?_
            refine lv_iload_n hx hb d_Md_finish_129 rfl (lv_at hl 0 rfl) ?_
            refine va_put (D := (dC, dI)) (ci := 6) (v := .int (nI ((mst r2) / mS))) (ty := .int) (C := R_Md) (T := F_Md) (N := 21) hx hb hts i_Md t_Md t_Md_ok n_Md hown hK hP hD hS 0 rfl rfl 10 (by decide) (hts _ wd_573) (fun _ h9 => h9) rfl (by decide +kernel) rfl rfl (Nat.le_of_ble_eq_true rfl) d_Md_finish_130 (fun H locs hP hD hS => ?_)
            have hP : va_P (dC, dI) vwCl ([(h0, zoMd mS mQ gK gV gH mL mo gM mch mA ((mst r2) / mS) gI gR gT gF gS gE gC (mB + 1) (-2) mz), (gT, zaZ (cT 2) 260 g), (gF, zaZ (cT 2) 260 mf), (gS, zaN (cT 0) 260 mst), (gE, zaN (cT 0) 260 (va_up me (mB + 1) mL))]) H := hP
            have hD : va_D A ([(h0, zoMd mS mQ gK gV gH mL mo gM mch mA ((mst r2) / mS) gI gR gT gF gS gE gC (mB + 1) (-2) mz), (gT, zaZ (cT 2) 260 g), (gF, zaZ (cT 2) 260 mf), (gS, zaN (cT 0) 260 mst), (gE, zaN (cT 0) 260 (va_up me (mB + 1) mL))]) := hD
            have hP9 := hP.sub (ws' := [(h0, zoMd mS mQ gK gV gH mL mo gM mch mA ((mst r2) / mS) gI gR gT gF gS gE gC (mB + 1) (-2) mz), (gT, zaZ (cT 2) 260 g), (gF, zaZ (cT 2) 260 mf), (gS, zaN (cT 0) 260 mst), (gE, zaN (cT 0) 260 (va_up me (mB + 1) mL))]) [0, 1, 2, 3, 4] rfl
            have hD9 := hD.sub (ws' := [(h0, zoMd mS mQ gK gV gH mL mo gM mch mA ((mst r2) / mS) gI gR gT gF gS gE gC (mB + 1) (-2) mz), (gT, zaZ (cT 2) 260 g), (gF, zaZ (cT 2) 260 mf), (gS, zaN (cT 0) 260 mst), (gE, zaN (cT 0) 260 (va_up me (mB + 1) mL))]) [0, 1, 2, 3, 4] (by decide) rfl
            have hg9 : g = zdr (va_up mt (mB + 1) true) r2 := by rw [hg, show i = r2 by omega]
            rw [hg9] at hP9 hD9
            have hP9 : va_P (dC, dI) vwCl ([(h0, zoMd mS mQ gK gV gH mL mo gM mch mA (max mP (min mA (mst r2 / mS))) gI gR gT gF gS gE gC (mB + 1) (-2) mz), (gT, zaZ (cT 2) 260 (zdr (va_up mt (mB + 1) true) r2)), (gF, zaZ (cT 2) 260 mf), (gS, zaN (cT 0) 260 mst), (gE, zaN (cT 0) 260 (va_up me (mB + 1) mL))]) H := by rw [Nat.min_eq_right c_112, Nat.max_eq_right (by omega)]; exact hP9
            have hD9 : va_D A ([(h0, zoMd mS mQ gK gV gH mL mo gM mch mA (max mP (min mA (mst r2 / mS))) gI gR gT gF gS gE gC (mB + 1) (-2) mz), (gT, zaZ (cT 2) 260 (zdr (va_up mt (mB + 1) true) r2)), (gF, zaZ (cT 2) 260 mf), (gS, zaN (cT 0) 260 mst), (gE, zaN (cT 0) 260 (va_up me (mB + 1) mL))]) := by rw [Nat.min_eq_right c_112, Nat.max_eq_right (by omega)]; exact hD9
            exact W.vret hx hb hr (fun t ht hW => ⟨⟨(), trivial, rfl, by rw [ht]; exact hP9, hD9⟩, hS.F ht⟩) hS.2.2 d_Md_finish_133
        · refine lv_aload_n hx hb d_Md_finish_115 rfl (lv_at hl 1 rfl) ?_
          refine va_get (D := (dC, dI)) (ci := 6) (v := .int (nI mA)) (C := R_Md) (T := F_Md) (N := 21) hx hb hts i_Md hown hK hP 0 rfl rfl 9 (by decide) (hts _ wd_572) (fun _ h9 => h9) rfl d_Md_finish_116 ?_
          refine lv_istore_n (lv' := [(2, .int (nI mA)), (0, .ref h0), (1, .int (nI r2))]) hx hb d_Md_finish_119 rfl hl (by decide) rfl (fun ls hl => ?_)
          refine lv_iload_n hx hb d_Md_finish_120 rfl (lv_at hl 0 rfl) ?_
          refine lv_aload_n hx hb d_Md_finish_121 rfl (lv_at hl 1 rfl) ?_
          refine va_get (D := (dC, dI)) (ci := 6) (v := .int (nI mP)) (C := R_Md) (T := F_Md) (N := 21) hx hb hts i_Md hown hK hP 0 rfl rfl 10 (by decide) (hts _ wd_573) (fun _ h9 => h9) rfl d_Md_finish_122 ?_
          refine zn_icmp_le (tgt := 133) hx hb (a := mA) (b := mP) (by omega) (by omega) d_Md_finish_125 (by decide) (fun c_125 => ?_) (fun c_125 => ?_)
          · have hP9 := hP.sub (ws' := [(h0, zoMd mS mQ gK gV gH mL mo gM mch mA mP gI gR gT gF gS gE gC (mB + 1) (-2) mz), (gT, zaZ (cT 2) 260 g), (gF, zaZ (cT 2) 260 mf), (gS, zaN (cT 0) 260 mst), (gE, zaN (cT 0) 260 (va_up me (mB + 1) mL))]) [0, 1, 2, 3, 4] rfl
            have hD9 := hD.sub (ws' := [(h0, zoMd mS mQ gK gV gH mL mo gM mch mA mP gI gR gT gF gS gE gC (mB + 1) (-2) mz), (gT, zaZ (cT 2) 260 g), (gF, zaZ (cT 2) 260 mf), (gS, zaN (cT 0) 260 mst), (gE, zaN (cT 0) 260 (va_up me (mB + 1) mL))]) [0, 1, 2, 3, 4] (by decide) rfl
            have hg9 : g = zdr (va_up mt (mB + 1) true) r2 := by rw [hg, show i = r2 by omega]
            rw [hg9] at hP9 hD9
            have hP9 : va_P (dC, dI) vwCl ([(h0, zoMd mS mQ gK gV gH mL mo gM mch mA (max mP (min mA (mst r2 / mS))) gI gR gT gF gS gE gC (mB + 1) (-2) mz), (gT, zaZ (cT 2) 260 (zdr (va_up mt (mB + 1) true) r2)), (gF, zaZ (cT 2) 260 mf), (gS, zaN (cT 0) 260 mst), (gE, zaN (cT 0) 260 (va_up me (mB + 1) mL))]) H := by rw [Nat.min_eq_left (by omega), Nat.max_eq_left c_125]; exact hP9
            have hD9 : va_D A ([(h0, zoMd mS mQ gK gV gH mL mo gM mch mA (max mP (min mA (mst r2 / mS))) gI gR gT gF gS gE gC (mB + 1) (-2) mz), (gT, zaZ (cT 2) 260 (zdr (va_up mt (mB + 1) true) r2)), (gF, zaZ (cT 2) 260 mf), (gS, zaN (cT 0) 260 mst), (gE, zaN (cT 0) 260 (va_up me (mB + 1) mL))]) := by rw [Nat.min_eq_left (by omega), Nat.max_eq_left c_125]; exact hD9
            exact W.vret hx hb hr (fun t ht hW => ⟨⟨(), trivial, rfl, by rw [ht]; exact hP9, hD9⟩, hS.F ht⟩) hS.2.2 d_Md_finish_133
          · refine lv_aload_n hx hb d_Md_finish_128 rfl (lv_at hl 1 rfl) ?_
            refine lv_iload_n hx hb d_Md_finish_129 rfl (lv_at hl 0 rfl) ?_
            refine va_put (D := (dC, dI)) (ci := 6) (v := .int (nI mA)) (ty := .int) (C := R_Md) (T := F_Md) (N := 21) hx hb hts i_Md t_Md t_Md_ok n_Md hown hK hP hD hS 0 rfl rfl 10 (by decide) (hts _ wd_573) (fun _ h9 => h9) rfl (by decide +kernel) rfl rfl (Nat.le_of_ble_eq_true rfl) d_Md_finish_130 (fun H locs hP hD hS => ?_)
            have hP : va_P (dC, dI) vwCl ([(h0, zoMd mS mQ gK gV gH mL mo gM mch mA mA gI gR gT gF gS gE gC (mB + 1) (-2) mz), (gT, zaZ (cT 2) 260 g), (gF, zaZ (cT 2) 260 mf), (gS, zaN (cT 0) 260 mst), (gE, zaN (cT 0) 260 (va_up me (mB + 1) mL))]) H := hP
            have hD : va_D A ([(h0, zoMd mS mQ gK gV gH mL mo gM mch mA mA gI gR gT gF gS gE gC (mB + 1) (-2) mz), (gT, zaZ (cT 2) 260 g), (gF, zaZ (cT 2) 260 mf), (gS, zaN (cT 0) 260 mst), (gE, zaN (cT 0) 260 (va_up me (mB + 1) mL))]) := hD
            have hP9 := hP.sub (ws' := [(h0, zoMd mS mQ gK gV gH mL mo gM mch mA mA gI gR gT gF gS gE gC (mB + 1) (-2) mz), (gT, zaZ (cT 2) 260 g), (gF, zaZ (cT 2) 260 mf), (gS, zaN (cT 0) 260 mst), (gE, zaN (cT 0) 260 (va_up me (mB + 1) mL))]) [0, 1, 2, 3, 4] rfl
            have hD9 := hD.sub (ws' := [(h0, zoMd mS mQ gK gV gH mL mo gM mch mA mA gI gR gT gF gS gE gC (mB + 1) (-2) mz), (gT, zaZ (cT 2) 260 g), (gF, zaZ (cT 2) 260 mf), (gS, zaN (cT 0) 260 mst), (gE, zaN (cT 0) 260 (va_up me (mB + 1) mL))]) [0, 1, 2, 3, 4] (by decide) rfl
            have hg9 : g = zdr (va_up mt (mB + 1) true) r2 := by rw [hg, show i = r2 by omega]
            rw [hg9] at hP9 hD9
            have hP9 : va_P (dC, dI) vwCl ([(h0, zoMd mS mQ gK gV gH mL mo gM mch mA (max mP (min mA (mst r2 / mS))) gI gR gT gF gS gE gC (mB + 1) (-2) mz), (gT, zaZ (cT 2) 260 (zdr (va_up mt (mB + 1) true) r2)), (gF, zaZ (cT 2) 260 mf), (gS, zaN (cT 0) 260 mst), (gE, zaN (cT 0) 260 (va_up me (mB + 1) mL))]) H := by rw [Nat.min_eq_left (by omega), Nat.max_eq_right (by omega)]; exact hP9
            have hD9 : va_D A ([(h0, zoMd mS mQ gK gV gH mL mo gM mch mA (max mP (min mA (mst r2 / mS))) gI gR gT gF gS gE gC (mB + 1) (-2) mz), (gT, zaZ (cT 2) 260 (zdr (va_up mt (mB + 1) true) r2)), (gF, zaZ (cT 2) 260 mf), (gS, zaN (cT 0) 260 mst), (gE, zaN (cT 0) 260 (va_up me (mB + 1) mL))]) := by rw [Nat.min_eq_left (by omega), Nat.max_eq_right (by omega)]; exact hD9
            exact W.vret hx hb hr (fun t ht hW => ⟨⟨(), trivial, rfl, by rw [ht]; exact hP9, hD9⟩, hS.F ht⟩) hS.2.2 d_Md_finish_133
      · refine lv_aload_n hx hb d_Md_finish_82 rfl (lv_at hl 0 rfl) ?_
        refine va_get (D := (dC, dI)) (ci := 6) (v := .ref gT) (C := R_Md) (T := F_Md) (N := 21) hx hb hts i_Md hown hK hP 0 rfl rfl 13 (by decide) (hts _ wd_576) (fun _ h9 => h9) rfl d_Md_finish_83 ?_
        refine lv_iload_n hx hb d_Md_finish_86 rfl (lv_at hl 2 rfl) ?_
        refine lv_iconst (v := (nI 0)) hx hb d_Md_finish_87 (by decide) ?_
        refine W.eq (g2 := F0 m 88 ls [.int (zb false), .int (nI i), .ref gT]) rfl ?_
        refine zn_zastB hx hb hK hP hD hS 1 2 rfl rfl (i := i) (x := false) (by omega) (by omega) d_Md_finish_88 (fun H locs hP hD hS => ?_)
        have hP : va_P (dC, dI) vwCl ([(h0, zoMd mS mQ gK gV gH mL mo gM mch mA mP gI gR gT gF gS gE gC (mB + 1) (-2) mz), (gT, zaZ (cT 2) 260 (va_up g i false)), (gF, zaZ (cT 2) 260 mf), (gS, zaN (cT 0) 260 mst), (gE, zaN (cT 0) 260 (va_up me (mB + 1) mL))]) H := hP
        have hD : va_D A ([(h0, zoMd mS mQ gK gV gH mL mo gM mch mA mP gI gR gT gF gS gE gC (mB + 1) (-2) mz), (gT, zaZ (cT 2) 260 (va_up g i false)), (gF, zaZ (cT 2) 260 mf), (gS, zaN (cT 0) 260 mst), (gE, zaN (cT 0) 260 (va_up me (mB + 1) mL))]) := hD
        refine lv_iinc (v := (nI (i + 1))) (lv' := [(2, .int (nI (i + 1))), (0, .ref h0), (1, .int (nI r2))]) hx hb d_Md_finish_89 hl (k := 2) rfl (nI_1 _) (by decide) rfl (fun ls hl => ?_)
        refine lv_goto (tgt := 77) hx hb d_Md_finish_92 (by decide) ?_
        exact ih_77 (i + 1) (va_up g i false) (by omega) (by first | omega | assumption) (by first | omega | assumption) (by rw [hg, zdr_s _ h1]) H locs (hP.sub [0, 1, 2, 3, 4] rfl) (hD.sub [0, 1, 2, 3, 4] (by decide) rfl) hS ls (lv_sub hl [1, 2, 0] rfl)
  exact loop_77 (r2 - 1 + 1) 1 (va_up mt (mB + 1) true) (by omega) (by first | omega | assumption) (by first | omega | assumption) (by rw [zdr_1]) H locs (hP.sub [0, 1, 2, 3, 4] rfl) (hD.sub [0, 1, 2, 3, 4] (by decide) rfl) hS ls (lv_sub hl [2, 1, 0] rfl)
set_option maxHeartbeats 4000000 in
set_option maxRecDepth 100000 in
theorem c_Md_step_bad (l : Launch) (dC : Nat → ClassId) (dI : Nat → Nat → Nat) (cT : Nat → ClassId) (sz : Nat) (h0 : Nat) (mS : Nat) (mQ : Nat) (gK : Nat) (gV : Nat) (gH : Nat) (mL : Nat) (mo : Bool) (gM : Nat) (mch : Nat) (mA : Nat) (mP : Nat) (gI : Nat) (gR : Nat) (gT : Nat) (gF : Nat) (gS : Nat) (gE : Nat) (gC : Nat) (mB : Nat) (ml : Int32) (mz : Int32) (k : Int32) (hno : k < nI 1 ∨ nI 8 < k) : Met l y_Md_step w_Md_step ({ frames := 0, cells := 0, slots := 0, locals := 0 } : Room) (zPre (dC, dI) vwCl (zT cT) [.ref h0, .int k] ([(h0, zoMd mS mQ gK gV gH mL mo gM mch mA mP gI gR gT gF gS gE gC mB ml mz)]) sz) (zQ (dC, dI) vwCl (S := Unit) (fun zu => True) (fun zu => some (.int (-1))) (fun zu => [(h0, zoMd mS mQ gK gV gH mL mo gM mch mA mP gI gR gT gF gS gE gC mB ml mz)]) (va_A ([(h0, zoMd mS mQ gK gV gH mL mo gM mch mA mP gI gR gT gF gS gE gC mB ml mz)]) sz)) 0 0 (va_A ([(h0, zoMd mS mQ gK gV gH mL mo gM mch mA mP gI gR gT gF gS gE gC mB ml mz)]) sz) := by
  refine Met.ofW (cc := b_Md_step) (maxL := 6) (ret := (some .int)) (by decide) rfl ?_
  intro p e s m args below meth c s₁ B hml hv
  obtain ⟨rfl, hsz, hP, hK, hD0, hE⟩ := hv
  have hx := B.exec
  have hb := B.bytes
  have hr := B.returns
  have hts := fun w h => atoms_spec (ws := w_Md_step) B.pre w (List.mem_cons_of_mem _ h)
  have hown : s.vm.findClass R_Md = some m.cls := findClass_of_methodNamed B.named
  have hlocks := B.notSynchronized
  subst hsz
  have hD := hD0.self (sz := s.heap.size)
  generalize hAe : va_A ([(h0, zoMd mS mQ gK gV gH mL mo gM mch mA mP gI gR gT gF gS gE gC mB ml mz)]) s.heap.size = A at hD ⊢
  have hA : ∀ q : Nat, s.heap.size ≤ q → A q := fun q h => by rw [← hAe]; exact Or.inr h
  have hS : va_S A s.heap s.heap [] := va_S.rf
  have hl := lv_entry ([.ref h0, .int k]) (n := 6) (Nat.le_of_ble_eq_true rfl)
  rw [lg_entry_eq]
  generalize (lg_sl ([.ref h0, .int k]) ++ List.replicate (6 - (lg_sl ([.ref h0, .int k])).length) Slot.unset).toArray = ls at hl ⊢
  have hl : lv_has ls 6 [(0, .ref h0), (1, .int k)] := hl
  refine lv_iload_n hx hb d_Md_step_0 rfl (lv_at hl 1 rfl) ?_
  refine lv_iconst (v := (nI 1)) hx hb d_Md_step_1 (by decide) ?_
  refine lv_icmp_lt (tgt := 18) hx hb d_Md_step_2 (by decide) (fun c_2 => ?_) (fun c_2 => ?_)
  · refine lv_iconst (v := (-1)) hx hb d_Md_step_18 (by decide) ?_
    have hP9 := hP.sub (ws' := [(h0, zoMd mS mQ gK gV gH mL mo gM mch mA mP gI gR gT gF gS gE gC mB ml mz)]) [0] rfl
    have hD9 := hD.sub (ws' := [(h0, zoMd mS mQ gK gV gH mL mo gM mch mA mP gI gR gT gF gS gE gC mB ml mz)]) [0] (by decide) rfl
    exact W.iret hx hb hr (fun t ht hW => ⟨⟨(), trivial, rfl, by rw [ht]; exact hP9, hD9⟩, hS.F ht⟩) hS.2.2 d_Md_step_19
  · refine lv_iload_n hx hb d_Md_step_5 rfl (lv_at hl 1 rfl) ?_
    refine lv_bipush (v := (nI 8)) hx hb d_Md_step_6 (by decide) ?_
    refine lv_icmp_gt (tgt := 18) hx hb d_Md_step_8 (by decide) (fun c_8 => ?_) (fun c_8 => ?_)
    · refine lv_iconst (v := (-1)) hx hb d_Md_step_18 (by decide) ?_
      have hP9 := hP.sub (ws' := [(h0, zoMd mS mQ gK gV gH mL mo gM mch mA mP gI gR gT gF gS gE gC mB ml mz)]) [0] rfl
      have hD9 := hD.sub (ws' := [(h0, zoMd mS mQ gK gV gH mL mo gM mch mA mP gI gR gT gF gS gE gC mB ml mz)]) [0] (by decide) rfl
      exact W.iret hx hb hr (fun t ht hW => ⟨⟨(), trivial, rfl, by rw [ht]; exact hP9, hD9⟩, hS.F ht⟩) hS.2.2 d_Md_step_19
    · exact absurd hno (fun q => q.elim c_2 c_8)
set_option maxHeartbeats 4000000 in
set_option maxRecDepth 100000 in
theorem c_Md_step_idle (l : Launch) (dC : Nat → ClassId) (dI : Nat → Nat → Nat) (cT : Nat → ClassId) (sz : Nat) (h0 : Nat) (mS : Nat) (mQ : Nat) (gK : Nat) (gV : Nat) (gH : Nat) (mL : Nat) (mo : Bool) (gM : Nat) (mch : Nat) (mA : Nat) (mP : Nat) (gI : Nat) (gR : Nat) (gT : Nat) (gF : Nat) (gS : Nat) (gE : Nat) (gC : Nat) (mB : Nat) (mz : Int32) (k : Int32) : Met l y_Md_step w_Md_step ({ frames := 0, cells := 0, slots := 0, locals := 0 } : Room) (zPre (dC, dI) vwCl (zT cT) [.ref h0, .int k] ([(h0, zoMd mS mQ gK gV gH mL mo gM mch mA mP gI gR gT gF gS gE gC mB (-2) mz)]) sz) (zQ (dC, dI) vwCl (S := Unit) (fun zu => True) (fun zu => some (.int (-1))) (fun zu => [(h0, zoMd mS mQ gK gV gH mL mo gM mch mA mP gI gR gT gF gS gE gC mB (-2) mz)]) (va_A ([(h0, zoMd mS mQ gK gV gH mL mo gM mch mA mP gI gR gT gF gS gE gC mB (-2) mz)]) sz)) 0 0 (va_A ([(h0, zoMd mS mQ gK gV gH mL mo gM mch mA mP gI gR gT gF gS gE gC mB (-2) mz)]) sz) := by
  refine Met.ofW (cc := b_Md_step) (maxL := 6) (ret := (some .int)) (by decide) rfl ?_
  intro p e s m args below meth c s₁ B hml hv
  obtain ⟨rfl, hsz, hP, hK, hD0, hE⟩ := hv
  have hx := B.exec
  have hb := B.bytes
  have hr := B.returns
  have hts := fun w h => atoms_spec (ws := w_Md_step) B.pre w (List.mem_cons_of_mem _ h)
  have hown : s.vm.findClass R_Md = some m.cls := findClass_of_methodNamed B.named
  have hlocks := B.notSynchronized
  subst hsz
  have hD := hD0.self (sz := s.heap.size)
  generalize hAe : va_A ([(h0, zoMd mS mQ gK gV gH mL mo gM mch mA mP gI gR gT gF gS gE gC mB (-2) mz)]) s.heap.size = A at hD ⊢
  have hA : ∀ q : Nat, s.heap.size ≤ q → A q := fun q h => by rw [← hAe]; exact Or.inr h
  have hS : va_S A s.heap s.heap [] := va_S.rf
  have hl := lv_entry ([.ref h0, .int k]) (n := 6) (Nat.le_of_ble_eq_true rfl)
  rw [lg_entry_eq]
  generalize (lg_sl ([.ref h0, .int k]) ++ List.replicate (6 - (lg_sl ([.ref h0, .int k])).length) Slot.unset).toArray = ls at hl ⊢
  have hl : lv_has ls 6 [(0, .ref h0), (1, .int k)] := hl
  refine lv_iload_n hx hb d_Md_step_0 rfl (lv_at hl 1 rfl) ?_
  refine lv_iconst (v := (nI 1)) hx hb d_Md_step_1 (by decide) ?_
  refine lv_icmp_lt (tgt := 18) hx hb d_Md_step_2 (by decide) (fun c_2 => ?_) (fun c_2 => ?_)
  · refine lv_iconst (v := (-1)) hx hb d_Md_step_18 (by decide) ?_
    have hP9 := hP.sub (ws' := [(h0, zoMd mS mQ gK gV gH mL mo gM mch mA mP gI gR gT gF gS gE gC mB (-2) mz)]) [0] rfl
    have hD9 := hD.sub (ws' := [(h0, zoMd mS mQ gK gV gH mL mo gM mch mA mP gI gR gT gF gS gE gC mB (-2) mz)]) [0] (by decide) rfl
    exact W.iret hx hb hr (fun t ht hW => ⟨⟨(), trivial, rfl, by rw [ht]; exact hP9, hD9⟩, hS.F ht⟩) hS.2.2 d_Md_step_19
  · refine lv_iload_n hx hb d_Md_step_5 rfl (lv_at hl 1 rfl) ?_
    refine lv_bipush (v := (nI 8)) hx hb d_Md_step_6 (by decide) ?_
    refine lv_icmp_gt (tgt := 18) hx hb d_Md_step_8 (by decide) (fun c_8 => ?_) (fun c_8 => ?_)
    · refine lv_iconst (v := (-1)) hx hb d_Md_step_18 (by decide) ?_
      have hP9 := hP.sub (ws' := [(h0, zoMd mS mQ gK gV gH mL mo gM mch mA mP gI gR gT gF gS gE gC mB (-2) mz)]) [0] rfl
      have hD9 := hD.sub (ws' := [(h0, zoMd mS mQ gK gV gH mL mo gM mch mA mP gI gR gT gF gS gE gC mB (-2) mz)]) [0] (by decide) rfl
      exact W.iret hx hb hr (fun t ht hW => ⟨⟨(), trivial, rfl, by rw [ht]; exact hP9, hD9⟩, hS.F ht⟩) hS.2.2 d_Md_step_19
    · refine lv_aload_n hx hb d_Md_step_11 rfl (lv_at hl 0 rfl) ?_
      refine va_get (D := (dC, dI)) (ci := 6) (v := .int (-2)) (C := R_Md) (T := F_Md) (N := 21) hx hb hts i_Md hown hK hP 0 rfl rfl 19 (by decide) (hts _ wd_582) (fun _ h9 => h9) rfl d_Md_step_12 ?_
      refine lv_if_ge (tgt := 20) hx hb d_Md_step_15 (by decide) (fun c_15 => absurd c_15 (by decide)) (fun c_15 => ?_)
      refine lv_iconst (v := (-1)) hx hb d_Md_step_18 (by decide) ?_
      have hP9 := hP.sub (ws' := [(h0, zoMd mS mQ gK gV gH mL mo gM mch mA mP gI gR gT gF gS gE gC mB (-2) mz)]) [0] rfl
      have hD9 := hD.sub (ws' := [(h0, zoMd mS mQ gK gV gH mL mo gM mch mA mP gI gR gT gF gS gE gC mB (-2) mz)]) [0] (by decide) rfl
      exact W.iret hx hb hr (fun t ht hW => ⟨⟨(), trivial, rfl, by rw [ht]; exact hP9, hD9⟩, hS.F ht⟩) hS.2.2 d_Md_step_19
set_option maxHeartbeats 4000000 in
set_option maxRecDepth 100000 in
theorem c_Md_step_part (l : Launch) (dC : Nat → ClassId) (dI : Nat → Nat → Nat) (cT : Nat → ClassId) (sz : Nat) (h0 : Nat) (mS : Nat) (mQ : Nat) (gK : Nat) (gV : Nat) (gH : Nat) (mL : Nat) (mo : Bool) (gM : Nat) (mch : Nat) (mA : Nat) (mP : Nat) (gI : Nat) (gR : Nat) (gT : Nat) (gF : Nat) (gS : Nat) (gE : Nat) (gC : Nat) (mB : Nat) (mz : Int32) (lv : Nat) (n : Nat) (mk : Nat → Int32) (mt : Nat → Bool) (mf : Nat → Bool) (mst : Nat → Nat) (me : Nat → Nat) (cp : Nat → Int32) (hL : mL ≤ 1000) (hkey : ∀ i, 1 ≤ i → i ≤ mL → ¬ mk i < 0 → isIn (mk i) 32 = true) (hB : mB ≤ 255) (hn1 : 1 ≤ n) (hn8 : n ≤ 8) (hl1 : 1 ≤ lv) (hl8 : lv ≤ 8) (hst0 : mst mB ≤ 1000) (hpa : n < lv) : Met l y_Md_step w_Md_step ({ frames := 1, cells := 0, slots := 0, locals := 22 } : Room) (zPre (dC, dI) vwCl (zT cT) [.ref h0, .int (nI n)] ([(h0, zoMd mS mQ gK gV gH mL mo gM mch mA mP gI gR gT gF gS gE gC mB (nI lv) mz), (gK, zaI (cT 0) 1100 mk), (gT, zaZ (cT 2) 260 mt), (gF, zaZ (cT 2) 260 mf), (gS, zaN (cT 0) 260 mst), (gE, zaN (cT 0) 260 me), (gC, zaI (cT 0) 2080 cp)]) sz) (zQ (dC, dI) vwCl (S := Unit) (fun zu => True) (fun zu => some (.int (nI (lv - n)))) (fun zu => [(h0, zoMd mS mQ gK gV gH mL mo gM mch mA mP gI gR gT gF gS gE gC mB (nI (lv - n)) mz), (gK, zaI (cT 0) 1100 mk), (gT, zaZ (cT 2) 260 mt), (gF, zaZ (cT 2) 260 mf), (gS, zaN (cT 0) 260 mst), (gE, zaN (cT 0) 260 me), (gC, zaI (cT 0) 2080 (zvis cp (fun p => znum mk p mL) (mB + 1) (8 - lv) (mst mB) (mf (mB + 1)) n))]) (va_A ([(h0, zoMd mS mQ gK gV gH mL mo gM mch mA mP gI gR gT gF gS gE gC mB (nI lv) mz), (gK, zaI (cT 0) 1100 mk), (gT, zaZ (cT 2) 260 mt), (gF, zaZ (cT 2) 260 mf), (gS, zaN (cT 0) 260 mst), (gE, zaN (cT 0) 260 me), (gC, zaI (cT 0) 2080 cp)]) sz)) 0 0 (va_A ([(h0, zoMd mS mQ gK gV gH mL mo gM mch mA mP gI gR gT gF gS gE gC mB (nI lv) mz), (gK, zaI (cT 0) 1100 mk), (gT, zaZ (cT 2) 260 mt), (gF, zaZ (cT 2) 260 mf), (gS, zaN (cT 0) 260 mst), (gE, zaN (cT 0) 260 me), (gC, zaI (cT 0) 2080 cp)]) sz) := by
  refine Met.ofW (cc := b_Md_step) (maxL := 6) (ret := (some .int)) (by decide) rfl ?_
  intro p e s m args below meth c s₁ B hml hv
  obtain ⟨rfl, hsz, hP, hK, hD0, hE⟩ := hv
  have hx := B.exec
  have hb := B.bytes
  have hr := B.returns
  have hts := fun w h => atoms_spec (ws := w_Md_step) B.pre w (List.mem_cons_of_mem _ h)
  have hown : s.vm.findClass R_Md = some m.cls := findClass_of_methodNamed B.named
  have hlocks := B.notSynchronized
  subst hsz
  have hD := hD0.self (sz := s.heap.size)
  generalize hAe : va_A ([(h0, zoMd mS mQ gK gV gH mL mo gM mch mA mP gI gR gT gF gS gE gC mB (nI lv) mz), (gK, zaI (cT 0) 1100 mk), (gT, zaZ (cT 2) 260 mt), (gF, zaZ (cT 2) 260 mf), (gS, zaN (cT 0) 260 mst), (gE, zaN (cT 0) 260 me), (gC, zaI (cT 0) 2080 cp)]) s.heap.size = A at hD ⊢
  have hA : ∀ q : Nat, s.heap.size ≤ q → A q := fun q h => by rw [← hAe]; exact Or.inr h
  have hS : va_S A s.heap s.heap [] := va_S.rf
  have hl := lv_entry ([.ref h0, .int (nI n)]) (n := 6) (Nat.le_of_ble_eq_true rfl)
  rw [lg_entry_eq]
  generalize (lg_sl ([.ref h0, .int (nI n)]) ++ List.replicate (6 - (lg_sl ([.ref h0, .int (nI n)])).length) Slot.unset).toArray = ls at hl ⊢
  have hl : lv_has ls 6 [(0, .ref h0), (1, .int (nI n))] := hl
  refine lv_iload_n hx hb d_Md_step_0 rfl (lv_at hl 1 rfl) ?_
  refine lv_iconst (v := (nI 1)) hx hb d_Md_step_1 (by decide) ?_
  refine zn_icmp_lt (tgt := 18) hx hb (a := n) (b := 1) (by omega) (by omega) d_Md_step_2 (by decide) (fun c_2 => absurd c_2 (by omega)) (fun c_2 => ?_)
  refine lv_iload_n hx hb d_Md_step_5 rfl (lv_at hl 1 rfl) ?_
  refine lv_bipush (v := (nI 8)) hx hb d_Md_step_6 (by decide) ?_
  refine zn_icmp_gt (tgt := 18) hx hb (a := n) (b := 8) (by omega) (by omega) d_Md_step_8 (by decide) (fun c_8 => absurd c_8 (by omega)) (fun c_8 => ?_)
  refine lv_aload_n hx hb d_Md_step_11 rfl (lv_at hl 0 rfl) ?_
  refine va_get (D := (dC, dI)) (ci := 6) (v := .int (nI lv)) (C := R_Md) (T := F_Md) (N := 21) hx hb hts i_Md hown hK hP 0 rfl rfl 19 (by decide) (hts _ wd_582) (fun _ h9 => h9) rfl d_Md_step_12 ?_
  refine zn_if_ge (tgt := 20) hx hb (a := lv) (by omega) d_Md_step_15 (by decide) (fun _ => ?_) (fun c => c.elim)
  refine lv_aload_n hx hb d_Md_step_20 rfl (lv_at hl 0 rfl) ?_
  refine va_get (D := (dC, dI)) (ci := 6) (v := .int (nI mB)) (C := R_Md) (T := F_Md) (N := 21) hx hb hts i_Md hown hK hP 0 rfl rfl 18 (by decide) (hts _ wd_581) (fun _ h9 => h9) rfl d_Md_step_21 ?_
  refine lv_iconst (v := (nI 1)) hx hb d_Md_step_24 (by decide) ?_
  refine zn_iadd hx hb d_Md_step_25 ?_
  refine lv_istore_n (lv' := [(2, .int (nI (mB + 1))), (0, .ref h0), (1, .int (nI n))]) hx hb d_Md_step_26 rfl hl (by decide) rfl (fun ls hl => ?_)
  refine lv_iconst (v := (nI 0)) hx hb d_Md_step_27 (by decide) ?_
  refine lv_istore_n (lv' := [(3, .int (nI 0)), (2, .int (nI (mB + 1))), (0, .ref h0), (1, .int (nI n))]) hx hb d_Md_step_28 rfl hl (by decide) rfl (fun ls hl => ?_)
  have loop_29 : ∀ (fu : Nat) (j : Nat) (g : Nat → Int32), n - j < fu → (j ≤ n) → (j ≤ lv) → (g = zvis cp (fun p => znum mk p mL) (mB + 1) (8 - lv) (mst mB) (mf (mB + 1)) j) → ∀ (H : Heap) (locs : List Loc), va_P (dC, dI) vwCl ([(h0, zoMd mS mQ gK gV gH mL mo gM mch mA mP gI gR gT gF gS gE gC mB (nI (lv - j)) mz), (gK, zaI (cT 0) 1100 mk), (gT, zaZ (cT 2) 260 mt), (gF, zaZ (cT 2) 260 mf), (gS, zaN (cT 0) 260 mst), (gE, zaN (cT 0) 260 me), (gC, zaI (cT 0) 2080 g)]) H → va_D A ([(h0, zoMd mS mQ gK gV gH mL mo gM mch mA mP gI gR gT gF gS gE gC mB (nI (lv - j)) mz), (gK, zaI (cT 0) 1100 mk), (gT, zaZ (cT 2) 260 mt), (gF, zaZ (cT 2) 260 mf), (gS, zaN (cT 0) 260 mst), (gE, zaN (cT 0) 260 me), (gC, zaI (cT 0) 2080 g)]) → va_S A s.heap H locs → ∀ (ls : Array Slot), lv_has ls 6 [(0, .ref h0), (1, .int (nI n)), (2, .int (nI (mB + 1))), (3, .int (nI j))] → W p l e (headSpec w_Md_step ({ frames := 1, cells := 0, slots := 0, locals := 22 } : Room)).room s m ([.ref h0, .int (nI n)] : List Value).toArray below meth c H locs 0 0 (MQ below (zQ (dC, dI) vwCl (S := Unit) (fun zu => True) (fun zu => some (.int (nI (lv - n)))) (fun zu => [(h0, zoMd mS mQ gK gV gH mL mo gM mch mA mP gI gR gT gF gS gE gC mB (nI (lv - n)) mz), (gK, zaI (cT 0) 1100 mk), (gT, zaZ (cT 2) 260 mt), (gF, zaZ (cT 2) 260 mf), (gS, zaN (cT 0) 260 mst), (gE, zaN (cT 0) 260 me), (gC, zaI (cT 0) 2080 (zvis cp (fun p => znum mk p mL) (mB + 1) (8 - lv) (mst mB) (mf (mB + 1)) n))]) A) ([.ref h0, .int (nI n)] : List Value).toArray s 0 0 A) (F0 m 29 ls []) := by
    intro fu
    induction fu with
    | zero => intro _ _ hm; exact absurd hm (Nat.not_lt_zero _)
    | succ fu ih_29 =>
      intro j g hm_29 h1 h2 hg H locs hP hD hS ls hl
      refine lv_iload_n hx hb d_Md_step_29 rfl (lv_at hl 3 rfl) ?_
      refine lv_iload_n hx hb d_Md_step_30 rfl (lv_at hl 1 rfl) ?_
      refine zn_icmp_ge (tgt := 111) hx hb (a := j) (b := n) (by omega) (by omega) d_Md_step_31 (by decide) (fun c_31 => ?_) (fun c_31 => ?_)
      · refine lv_aload_n hx hb d_Md_step_111 rfl (lv_at hl 0 rfl) ?_
        refine va_get (D := (dC, dI)) (ci := 6) (v := .int (nI (lv - j))) (C := R_Md) (T := F_Md) (N := 21) hx hb hts i_Md hown hK hP 0 rfl rfl 19 (by decide) (hts _ wd_582) (fun _ h9 => h9) rfl d_Md_step_112 ?_
        refine zn_if_le (tgt := 123) hx hb (a := lv - j) (by omega) d_Md_step_115 (by decide) (fun c_115 => absurd c_115 (by omega)) (fun c_115 => ?_)
        refine lv_aload_n hx hb d_Md_step_118 rfl (lv_at hl 0 rfl) ?_
        refine va_get (D := (dC, dI)) (ci := 6) (v := .int (nI (lv - j))) (C := R_Md) (T := F_Md) (N := 21) hx hb hts i_Md hown hK hP 0 rfl rfl 19 (by decide) (hts _ wd_582) (fun _ h9 => h9) rfl d_Md_step_119 ?_
        have hP9 := hP.sub (ws' := [(h0, zoMd mS mQ gK gV gH mL mo gM mch mA mP gI gR gT gF gS gE gC mB (nI (lv - j)) mz), (gK, zaI (cT 0) 1100 mk), (gT, zaZ (cT 2) 260 mt), (gF, zaZ (cT 2) 260 mf), (gS, zaN (cT 0) 260 mst), (gE, zaN (cT 0) 260 me), (gC, zaI (cT 0) 2080 g)]) [0, 1, 2, 3, 4, 5, 6] rfl
        have hD9 := hD.sub (ws' := [(h0, zoMd mS mQ gK gV gH mL mo gM mch mA mP gI gR gT gF gS gE gC mB (nI (lv - j)) mz), (gK, zaI (cT 0) 1100 mk), (gT, zaZ (cT 2) 260 mt), (gF, zaZ (cT 2) 260 mf), (gS, zaN (cT 0) 260 mst), (gE, zaN (cT 0) 260 me), (gC, zaI (cT 0) 2080 g)]) [0, 1, 2, 3, 4, 5, 6] (by decide) rfl
        rw [hg, show j = n by omega] at hP9 hD9
        exact W.iret hx hb hr (fun t ht hW => ⟨⟨(), trivial, by rw [show j = n by omega], by rw [ht]; exact hP9, hD9⟩, hS.F ht⟩) hS.2.2 d_Md_step_122
      · refine lv_aload_n hx hb d_Md_step_34 rfl (lv_at hl 0 rfl) ?_
        refine va_get (D := (dC, dI)) (ci := 6) (v := .int (nI (lv - j))) (C := R_Md) (T := F_Md) (N := 21) hx hb hts i_Md hown hK hP 0 rfl rfl 19 (by decide) (hts _ wd_582) (fun _ h9 => h9) rfl d_Md_step_35 ?_
        refine zn_if_le (tgt := 111) hx hb (a := lv - j) (by omega) d_Md_step_38 (by decide) (fun c_38 => absurd c_38 (by omega)) (fun c_38 => ?_)
        refine lv_bipush (v := (nI 8)) hx hb d_Md_step_41 (by decide) ?_
        refine lv_aload_n hx hb d_Md_step_43 rfl (lv_at hl 0 rfl) ?_
        refine va_get (D := (dC, dI)) (ci := 6) (v := .int (nI (lv - j))) (C := R_Md) (T := F_Md) (N := 21) hx hb hts i_Md hown hK hP 0 rfl rfl 19 (by decide) (hts _ wd_582) (fun _ h9 => h9) rfl d_Md_step_44 ?_
        refine zn_isub hx hb (by omega) d_Md_step_47 ?_
        refine lv_istore (lv' := [(4, .int (nI (8 - (lv - j)))), (0, .ref h0), (1, .int (nI n)), (2, .int (nI (mB + 1))), (3, .int (nI j))]) hx hb d_Md_step_48 hl (by decide) rfl (fun ls hl => ?_)
        have hl : lv_has ls 6 [(4, .int (nI (8 - lv + j))), (0, .ref h0), (1, .int (nI n)), (2, .int (nI (mB + 1))), (3, .int (nI j))] := by rw [← (congrArg nI (show 8 - (lv - j) = 8 - lv + j by omega))]; exact hl
        refine lv_aload_n hx hb d_Md_step_50 rfl (lv_at hl 1 rfl) ?_
        refine lv_iload hx hb d_Md_step_51 (lv_at hl 0 rfl) ?_
        refine zw_R (r := .int (nI (znum mk (8 - lv + j) mL))) (va_runV (As := [.int (nI (8 - lv + j))]) (rest := []) ⟨hx, hb, hml, hown, hts⟩ (c_Md_numberOf l dC dI cT h0 mS mQ gK gV gH mL mo gM mch mA mP gI gR gT gF gS gE gC mB (nI (lv - j)) mz (8 - lv + j) mk (by first | omega | assumption) (by first | omega | assumption) (by first | omega | assumption)) (cwV 1 hts (zgV wd_676 wd_678 wp_13 wd_11 wd_679) rfl rfl rfl (by decide +kernel) ⟨Nat.le_of_ble_eq_true rfl, Nat.le_of_ble_eq_true rfl⟩) ⟨zPreR_blind, va_recv hK hP (ci := 6) (q0 := 0) rfl rfl, zp_R hK hE (zSub (X := [(h0, zoMd mS mQ gK gV gH mL mo gM mch mA mP gI gR gT gF gS gE gC mB (nI (lv - j)) mz), (gK, zaI (cT 0) 1100 mk), (gT, zaZ (cT 2) 260 mt), (gF, zaZ (cT 2) 260 mf), (gS, zaN (cT 0) 260 mst), (gE, zaN (cT 0) 260 me), (gC, zaI (cT 0) 2080 g)]) (pl := []) hP [0, 1] rfl)⟩ rfl rfl hl.1 rfl (lv_room (Nat.le_of_ble_eq_true rfl)) d_Md_step_53 ⟨Nat.le_of_ble_eq_true rfl, Nat.le_of_ble_eq_true rfl⟩) ?_
        refine lv_istore (lv' := [(5, .int (nI (znum mk (8 - lv + j) mL))), (4, .int (nI (8 - lv + j))), (0, .ref h0), (1, .int (nI n)), (2, .int (nI (mB + 1))), (3, .int (nI j))]) hx hb d_Md_step_56 hl (by decide) rfl (fun ls hl => ?_)
        have hnu := znum_le mk (8 - lv + j) mL
        refine lv_aload_n hx hb d_Md_step_58 rfl (lv_at hl 2 rfl) ?_
        refine va_get (D := (dC, dI)) (ci := 6) (v := .ref gF) (C := R_Md) (T := F_Md) (N := 21) hx hb hts i_Md hown hK hP 0 rfl rfl 14 (by decide) (hts _ wd_577) (fun _ h9 => h9) rfl d_Md_step_59 ?_
        refine lv_iload_n hx hb d_Md_step_62 rfl (lv_at hl 4 rfl) ?_
        refine zn_zald hx hb hK hP 3 2 rfl rfl (i := mB + 1) (by omega) (by omega) d_Md_step_63 ?_
        refine zb_if_ne (tgt := 81) hx hb d_Md_step_64 (by decide) (fun c_64 => ?_) (fun c_64 => ?_)
        · refine lv_aload_n hx hb d_Md_step_81 rfl (lv_at hl 2 rfl) ?_
          refine va_get (D := (dC, dI)) (ci := 6) (v := .ref gC) (C := R_Md) (T := F_Md) (N := 21) hx hb hts i_Md hown hK hP 0 rfl rfl 17 (by decide) (hts _ wd_580) (fun _ h9 => h9) rfl d_Md_step_82 ?_
          refine lv_iload_n hx hb d_Md_step_85 rfl (lv_at hl 4 rfl) ?_
          refine lv_bipush (v := (nI 8)) hx hb d_Md_step_86 (by decide) ?_
          refine zn_imul hx hb d_Md_step_88 ?_
          refine lv_iload hx hb d_Md_step_89 (lv_at hl 1 rfl) ?_
          refine zn_iadd hx hb d_Md_step_91 ?_
          refine lv_iload hx hb d_Md_step_92 (lv_at hl 0 rfl) ?_
          refine zn_iast hx hb hK hP hD hS 6 0 rfl rfl (i := ((mB + 1) * 8) + (8 - lv + j)) (x := (nI (znum mk (8 - lv + j) mL))) (by omega) (by omega) d_Md_step_94 (fun H locs hP hD hS => ?_)
          have hP : va_P (dC, dI) vwCl ([(h0, zoMd mS mQ gK gV gH mL mo gM mch mA mP gI gR gT gF gS gE gC mB (nI (lv - j)) mz), (gK, zaI (cT 0) 1100 mk), (gT, zaZ (cT 2) 260 mt), (gF, zaZ (cT 2) 260 mf), (gS, zaN (cT 0) 260 mst), (gE, zaN (cT 0) 260 me), (gC, zaI (cT 0) 2080 (va_up g (((mB + 1) * 8) + (8 - lv + j)) (nI (znum mk (8 - lv + j) mL))))]) H := hP
          have hD : va_D A ([(h0, zoMd mS mQ gK gV gH mL mo gM mch mA mP gI gR gT gF gS gE gC mB (nI (lv - j)) mz), (gK, zaI (cT 0) 1100 mk), (gT, zaZ (cT 2) 260 mt), (gF, zaZ (cT 2) 260 mf), (gS, zaN (cT 0) 260 mst), (gE, zaN (cT 0) 260 me), (gC, zaI (cT 0) 2080 (va_up g (((mB + 1) * 8) + (8 - lv + j)) (nI (znum mk (8 - lv + j) mL))))]) := hD
          refine lv_aload_n hx hb d_Md_step_95 rfl (lv_at hl 2 rfl) ?_
          refine lv_dup hx hb d_Md_step_96 rfl ?_
          refine va_get (D := (dC, dI)) (ci := 6) (v := .int (nI (lv - j))) (C := R_Md) (T := F_Md) (N := 21) hx hb hts i_Md hown hK hP 0 rfl rfl 19 (by decide) (hts _ wd_582) (fun _ h9 => h9) rfl d_Md_step_97 ?_
          refine lv_iconst (v := (nI 1)) hx hb d_Md_step_100 (by decide) ?_
          refine zn_isub hx hb (by omega) d_Md_step_101 ?_
          refine va_put (D := (dC, dI)) (ci := 6) (v := .int (nI ((lv - j) - 1))) (ty := .int) (C := R_Md) (T := F_Md) (N := 21) hx hb hts i_Md t_Md t_Md_ok n_Md hown hK hP hD hS 0 rfl rfl 19 (by decide) (hts _ wd_582) (fun _ h9 => h9) rfl (by decide +kernel) rfl rfl (Nat.le_of_ble_eq_true rfl) d_Md_step_102 (fun H locs hP hD hS => ?_)
          have hP : va_P (dC, dI) vwCl ([(h0, zoMd mS mQ gK gV gH mL mo gM mch mA mP gI gR gT gF gS gE gC mB (nI ((lv - j) - 1)) mz), (gK, zaI (cT 0) 1100 mk), (gT, zaZ (cT 2) 260 mt), (gF, zaZ (cT 2) 260 mf), (gS, zaN (cT 0) 260 mst), (gE, zaN (cT 0) 260 me), (gC, zaI (cT 0) 2080 (va_up g (((mB + 1) * 8) + (8 - lv + j)) (nI (znum mk (8 - lv + j) mL))))]) H := hP
          have hD : va_D A ([(h0, zoMd mS mQ gK gV gH mL mo gM mch mA mP gI gR gT gF gS gE gC mB (nI ((lv - j) - 1)) mz), (gK, zaI (cT 0) 1100 mk), (gT, zaZ (cT 2) 260 mt), (gF, zaZ (cT 2) 260 mf), (gS, zaN (cT 0) 260 mst), (gE, zaN (cT 0) 260 me), (gC, zaI (cT 0) 2080 (va_up g (((mB + 1) * 8) + (8 - lv + j)) (nI (znum mk (8 - lv + j) mL))))]) := hD
          refine lv_iinc (v := (nI (j + 1))) (lv' := [(3, .int (nI (j + 1))), (5, .int (nI (znum mk (8 - lv + j) mL))), (4, .int (nI (8 - lv + j))), (0, .ref h0), (1, .int (nI n)), (2, .int (nI (mB + 1)))]) hx hb d_Md_step_105 hl (k := 5) rfl (nI_1 _) (by decide) rfl (fun ls hl => ?_)
          refine lv_goto (tgt := 29) hx hb d_Md_step_108 (by decide) ?_
          exact ih_29 (j + 1) (va_up g (((mB + 1) * 8) + (8 - lv + j)) (nI (znum mk (8 - lv + j) mL))) (by omega) (by first | omega | assumption) (by first | omega | assumption) (by rw [zvis, if_pos (Or.inl c_64), hg]) H locs (hP.sub [0, 1, 2, 3, 4, 5, 6] rfl) (hD.sub [0, 1, 2, 3, 4, 5, 6] (by decide) rfl) hS ls (lv_sub hl [3, 4, 5, 0] rfl)
        · refine lv_iload hx hb d_Md_step_67 (lv_at hl 0 rfl) ?_
          refine lv_aload_n hx hb d_Md_step_69 rfl (lv_at hl 2 rfl) ?_
          refine va_get (D := (dC, dI)) (ci := 6) (v := .ref gS) (C := R_Md) (T := F_Md) (N := 21) hx hb hts i_Md hown hK hP 0 rfl rfl 15 (by decide) (hts _ wd_578) (fun _ h9 => h9) rfl d_Md_step_70 ?_
          refine lv_aload_n hx hb d_Md_step_73 rfl (lv_at hl 2 rfl) ?_
          refine va_get (D := (dC, dI)) (ci := 6) (v := .int (nI mB)) (C := R_Md) (T := F_Md) (N := 21) hx hb hts i_Md hown hK hP 0 rfl rfl 18 (by decide) (hts _ wd_581) (fun _ h9 => h9) rfl d_Md_step_74 ?_
          refine zn_iald hx hb hK hP 4 0 rfl rfl (i := mB) (by omega) (by omega) d_Md_step_77 ?_
          refine zn_icmp_le (tgt := 95) hx hb (a := znum mk (8 - lv + j) mL) (b := mst mB) (by omega) (by omega) d_Md_step_78 (by decide) (fun c_78 => ?_) (fun c_78 => ?_)
          · refine lv_aload_n hx hb d_Md_step_95 rfl (lv_at hl 2 rfl) ?_
            refine lv_dup hx hb d_Md_step_96 rfl ?_
            refine va_get (D := (dC, dI)) (ci := 6) (v := .int (nI (lv - j))) (C := R_Md) (T := F_Md) (N := 21) hx hb hts i_Md hown hK hP 0 rfl rfl 19 (by decide) (hts _ wd_582) (fun _ h9 => h9) rfl d_Md_step_97 ?_
            refine lv_iconst (v := (nI 1)) hx hb d_Md_step_100 (by decide) ?_
            refine zn_isub hx hb (by omega) d_Md_step_101 ?_
            refine va_put (D := (dC, dI)) (ci := 6) (v := .int (nI ((lv - j) - 1))) (ty := .int) (C := R_Md) (T := F_Md) (N := 21) hx hb hts i_Md t_Md t_Md_ok n_Md hown hK hP hD hS 0 rfl rfl 19 (by decide) (hts _ wd_582) (fun _ h9 => h9) rfl (by decide +kernel) rfl rfl (Nat.le_of_ble_eq_true rfl) d_Md_step_102 (fun H locs hP hD hS => ?_)
            have hP : va_P (dC, dI) vwCl ([(h0, zoMd mS mQ gK gV gH mL mo gM mch mA mP gI gR gT gF gS gE gC mB (nI ((lv - j) - 1)) mz), (gK, zaI (cT 0) 1100 mk), (gT, zaZ (cT 2) 260 mt), (gF, zaZ (cT 2) 260 mf), (gS, zaN (cT 0) 260 mst), (gE, zaN (cT 0) 260 me), (gC, zaI (cT 0) 2080 g)]) H := hP
            have hD : va_D A ([(h0, zoMd mS mQ gK gV gH mL mo gM mch mA mP gI gR gT gF gS gE gC mB (nI ((lv - j) - 1)) mz), (gK, zaI (cT 0) 1100 mk), (gT, zaZ (cT 2) 260 mt), (gF, zaZ (cT 2) 260 mf), (gS, zaN (cT 0) 260 mst), (gE, zaN (cT 0) 260 me), (gC, zaI (cT 0) 2080 g)]) := hD
            refine lv_iinc (v := (nI (j + 1))) (lv' := [(3, .int (nI (j + 1))), (5, .int (nI (znum mk (8 - lv + j) mL))), (4, .int (nI (8 - lv + j))), (0, .ref h0), (1, .int (nI n)), (2, .int (nI (mB + 1)))]) hx hb d_Md_step_105 hl (k := 5) rfl (nI_1 _) (by decide) rfl (fun ls hl => ?_)
            refine lv_goto (tgt := 29) hx hb d_Md_step_108 (by decide) ?_
            exact ih_29 (j + 1) g (by omega) (by first | omega | assumption) (by first | omega | assumption) (by rw [zvis, if_neg (fun q => q.elim (fun q1 => by rw [c_64] at q1; exact absurd q1 (by decide)) (fun q2 => absurd q2 (Nat.not_lt.mpr c_78))), hg]) H locs (hP.sub [0, 1, 2, 3, 4, 5, 6] rfl) (hD.sub [0, 1, 2, 3, 4, 5, 6] (by decide) rfl) hS ls (lv_sub hl [3, 4, 5, 0] rfl)
          · refine lv_aload_n hx hb d_Md_step_81 rfl (lv_at hl 2 rfl) ?_
            refine va_get (D := (dC, dI)) (ci := 6) (v := .ref gC) (C := R_Md) (T := F_Md) (N := 21) hx hb hts i_Md hown hK hP 0 rfl rfl 17 (by decide) (hts _ wd_580) (fun _ h9 => h9) rfl d_Md_step_82 ?_
            refine lv_iload_n hx hb d_Md_step_85 rfl (lv_at hl 4 rfl) ?_
            refine lv_bipush (v := (nI 8)) hx hb d_Md_step_86 (by decide) ?_
            refine zn_imul hx hb d_Md_step_88 ?_
            refine lv_iload hx hb d_Md_step_89 (lv_at hl 1 rfl) ?_
            refine zn_iadd hx hb d_Md_step_91 ?_
            refine lv_iload hx hb d_Md_step_92 (lv_at hl 0 rfl) ?_
            refine zn_iast hx hb hK hP hD hS 6 0 rfl rfl (i := ((mB + 1) * 8) + (8 - lv + j)) (x := (nI (znum mk (8 - lv + j) mL))) (by omega) (by omega) d_Md_step_94 (fun H locs hP hD hS => ?_)
            have hP : va_P (dC, dI) vwCl ([(h0, zoMd mS mQ gK gV gH mL mo gM mch mA mP gI gR gT gF gS gE gC mB (nI (lv - j)) mz), (gK, zaI (cT 0) 1100 mk), (gT, zaZ (cT 2) 260 mt), (gF, zaZ (cT 2) 260 mf), (gS, zaN (cT 0) 260 mst), (gE, zaN (cT 0) 260 me), (gC, zaI (cT 0) 2080 (va_up g (((mB + 1) * 8) + (8 - lv + j)) (nI (znum mk (8 - lv + j) mL))))]) H := hP
            have hD : va_D A ([(h0, zoMd mS mQ gK gV gH mL mo gM mch mA mP gI gR gT gF gS gE gC mB (nI (lv - j)) mz), (gK, zaI (cT 0) 1100 mk), (gT, zaZ (cT 2) 260 mt), (gF, zaZ (cT 2) 260 mf), (gS, zaN (cT 0) 260 mst), (gE, zaN (cT 0) 260 me), (gC, zaI (cT 0) 2080 (va_up g (((mB + 1) * 8) + (8 - lv + j)) (nI (znum mk (8 - lv + j) mL))))]) := hD
            refine lv_aload_n hx hb d_Md_step_95 rfl (lv_at hl 2 rfl) ?_
            refine lv_dup hx hb d_Md_step_96 rfl ?_
            refine va_get (D := (dC, dI)) (ci := 6) (v := .int (nI (lv - j))) (C := R_Md) (T := F_Md) (N := 21) hx hb hts i_Md hown hK hP 0 rfl rfl 19 (by decide) (hts _ wd_582) (fun _ h9 => h9) rfl d_Md_step_97 ?_
            refine lv_iconst (v := (nI 1)) hx hb d_Md_step_100 (by decide) ?_
            refine zn_isub hx hb (by omega) d_Md_step_101 ?_
            refine va_put (D := (dC, dI)) (ci := 6) (v := .int (nI ((lv - j) - 1))) (ty := .int) (C := R_Md) (T := F_Md) (N := 21) hx hb hts i_Md t_Md t_Md_ok n_Md hown hK hP hD hS 0 rfl rfl 19 (by decide) (hts _ wd_582) (fun _ h9 => h9) rfl (by decide +kernel) rfl rfl (Nat.le_of_ble_eq_true rfl) d_Md_step_102 (fun H locs hP hD hS => ?_)
            have hP : va_P (dC, dI) vwCl ([(h0, zoMd mS mQ gK gV gH mL mo gM mch mA mP gI gR gT gF gS gE gC mB (nI ((lv - j) - 1)) mz), (gK, zaI (cT 0) 1100 mk), (gT, zaZ (cT 2) 260 mt), (gF, zaZ (cT 2) 260 mf), (gS, zaN (cT 0) 260 mst), (gE, zaN (cT 0) 260 me), (gC, zaI (cT 0) 2080 (va_up g (((mB + 1) * 8) + (8 - lv + j)) (nI (znum mk (8 - lv + j) mL))))]) H := hP
            have hD : va_D A ([(h0, zoMd mS mQ gK gV gH mL mo gM mch mA mP gI gR gT gF gS gE gC mB (nI ((lv - j) - 1)) mz), (gK, zaI (cT 0) 1100 mk), (gT, zaZ (cT 2) 260 mt), (gF, zaZ (cT 2) 260 mf), (gS, zaN (cT 0) 260 mst), (gE, zaN (cT 0) 260 me), (gC, zaI (cT 0) 2080 (va_up g (((mB + 1) * 8) + (8 - lv + j)) (nI (znum mk (8 - lv + j) mL))))]) := hD
            refine lv_iinc (v := (nI (j + 1))) (lv' := [(3, .int (nI (j + 1))), (5, .int (nI (znum mk (8 - lv + j) mL))), (4, .int (nI (8 - lv + j))), (0, .ref h0), (1, .int (nI n)), (2, .int (nI (mB + 1)))]) hx hb d_Md_step_105 hl (k := 5) rfl (nI_1 _) (by decide) rfl (fun ls hl => ?_)
            refine lv_goto (tgt := 29) hx hb d_Md_step_108 (by decide) ?_
            exact ih_29 (j + 1) (va_up g (((mB + 1) * 8) + (8 - lv + j)) (nI (znum mk (8 - lv + j) mL))) (by omega) (by first | omega | assumption) (by first | omega | assumption) (by rw [zvis, if_pos (Or.inr c_78), hg]) H locs (hP.sub [0, 1, 2, 3, 4, 5, 6] rfl) (hD.sub [0, 1, 2, 3, 4, 5, 6] (by decide) rfl) hS ls (lv_sub hl [3, 4, 5, 0] rfl)
  exact loop_29 (n - 0 + 1) 0 cp (by omega) (by first | omega | assumption) (by first | omega | assumption) rfl s.heap [] (hP.sub [0, 1, 2, 3, 4, 5, 6] rfl) (hD.sub [0, 1, 2, 3, 4, 5, 6] (by decide) rfl) hS ls (lv_sub hl [2, 3, 1, 0] rfl)
set_option maxHeartbeats 4000000 in
set_option maxRecDepth 100000 in
theorem c_Md_step_keep (l : Launch) (dC : Nat → ClassId) (dI : Nat → Nat → Nat) (cT : Nat → ClassId) (sz : Nat) (h0 : Nat) (mS : Nat) (mQ : Nat) (gK : Nat) (gV : Nat) (gH : Nat) (mL : Nat) (mo : Bool) (gM : Nat) (mch : Nat) (mA : Nat) (mP : Nat) (gI : Nat) (gR : Nat) (gT : Nat) (gF : Nat) (gS : Nat) (gE : Nat) (gC : Nat) (mB : Nat) (mz : Int32) (lv : Nat) (n : Nat) (mk : Nat → Int32) (mt : Nat → Bool) (mf : Nat → Bool) (mst : Nat → Nat) (me : Nat → Nat) (cp : Nat → Int32) (hL : mL ≤ 1000) (hkey : ∀ i, 1 ≤ i → i ≤ mL → ¬ mk i < 0 → isIn (mk i) 32 = true) (hB : mB ≤ 255) (hn1 : 1 ≤ n) (hn8 : n ≤ 8) (hl1 : 1 ≤ lv) (hl8 : lv ≤ 8) (hst0 : mst mB ≤ 1000) (hpa : lv ≤ n) (hQ : mQ ≤ 3) (hnd : mf (mB + 1) = false ∨ zful (va_up mt (mB + 1) true) mf (mB + 1) ≤ mQ) : Met l y_Md_step w_Md_step ({ frames := 2, cells := 0, slots := 0, locals := 44 } : Room) (zPre (dC, dI) vwCl (zT cT) [.ref h0, .int (nI n)] ([(h0, zoMd mS mQ gK gV gH mL mo gM mch mA mP gI gR gT gF gS gE gC mB (nI lv) mz), (gK, zaI (cT 0) 1100 mk), (gT, zaZ (cT 2) 260 mt), (gF, zaZ (cT 2) 260 mf), (gS, zaN (cT 0) 260 mst), (gE, zaN (cT 0) 260 me), (gC, zaI (cT 0) 2080 cp)]) sz) (zQ (dC, dI) vwCl (S := Unit) (fun zu => True) (fun zu => some (.int (nI 0))) (fun zu => [(h0, zoMd mS mQ gK gV gH mL mo gM mch mA mP gI gR gT gF gS gE gC (mB + 1) (-2) mz), (gK, zaI (cT 0) 1100 mk), (gT, zaZ (cT 2) 260 (va_up mt (mB + 1) true)), (gF, zaZ (cT 2) 260 mf), (gS, zaN (cT 0) 260 mst), (gE, zaN (cT 0) 260 (va_up me (mB + 1) mL)), (gC, zaI (cT 0) 2080 (zvis cp (fun p => znum mk p mL) (mB + 1) (8 - lv) (mst mB) (mf (mB + 1)) lv))]) (va_A ([(h0, zoMd mS mQ gK gV gH mL mo gM mch mA mP gI gR gT gF gS gE gC mB (nI lv) mz), (gK, zaI (cT 0) 1100 mk), (gT, zaZ (cT 2) 260 mt), (gF, zaZ (cT 2) 260 mf), (gS, zaN (cT 0) 260 mst), (gE, zaN (cT 0) 260 me), (gC, zaI (cT 0) 2080 cp)]) sz)) 0 0 (va_A ([(h0, zoMd mS mQ gK gV gH mL mo gM mch mA mP gI gR gT gF gS gE gC mB (nI lv) mz), (gK, zaI (cT 0) 1100 mk), (gT, zaZ (cT 2) 260 mt), (gF, zaZ (cT 2) 260 mf), (gS, zaN (cT 0) 260 mst), (gE, zaN (cT 0) 260 me), (gC, zaI (cT 0) 2080 cp)]) sz) := by
  refine Met.ofW (cc := b_Md_step) (maxL := 6) (ret := (some .int)) (by decide) rfl ?_
  intro p e s m args below meth c s₁ B hml hv
  obtain ⟨rfl, hsz, hP, hK, hD0, hE⟩ := hv
  have hx := B.exec
  have hb := B.bytes
  have hr := B.returns
  have hts := fun w h => atoms_spec (ws := w_Md_step) B.pre w (List.mem_cons_of_mem _ h)
  have hown : s.vm.findClass R_Md = some m.cls := findClass_of_methodNamed B.named
  have hlocks := B.notSynchronized
  subst hsz
  have hD := hD0.self (sz := s.heap.size)
  generalize hAe : va_A ([(h0, zoMd mS mQ gK gV gH mL mo gM mch mA mP gI gR gT gF gS gE gC mB (nI lv) mz), (gK, zaI (cT 0) 1100 mk), (gT, zaZ (cT 2) 260 mt), (gF, zaZ (cT 2) 260 mf), (gS, zaN (cT 0) 260 mst), (gE, zaN (cT 0) 260 me), (gC, zaI (cT 0) 2080 cp)]) s.heap.size = A at hD ⊢
  have hA : ∀ q : Nat, s.heap.size ≤ q → A q := fun q h => by rw [← hAe]; exact Or.inr h
  have hS : va_S A s.heap s.heap [] := va_S.rf
  have hl := lv_entry ([.ref h0, .int (nI n)]) (n := 6) (Nat.le_of_ble_eq_true rfl)
  rw [lg_entry_eq]
  generalize (lg_sl ([.ref h0, .int (nI n)]) ++ List.replicate (6 - (lg_sl ([.ref h0, .int (nI n)])).length) Slot.unset).toArray = ls at hl ⊢
  have hl : lv_has ls 6 [(0, .ref h0), (1, .int (nI n))] := hl
  refine lv_iload_n hx hb d_Md_step_0 rfl (lv_at hl 1 rfl) ?_
  refine lv_iconst (v := (nI 1)) hx hb d_Md_step_1 (by decide) ?_
  refine zn_icmp_lt (tgt := 18) hx hb (a := n) (b := 1) (by omega) (by omega) d_Md_step_2 (by decide) (fun c_2 => absurd c_2 (by omega)) (fun c_2 => ?_)
  refine lv_iload_n hx hb d_Md_step_5 rfl (lv_at hl 1 rfl) ?_
  refine lv_bipush (v := (nI 8)) hx hb d_Md_step_6 (by decide) ?_
  refine zn_icmp_gt (tgt := 18) hx hb (a := n) (b := 8) (by omega) (by omega) d_Md_step_8 (by decide) (fun c_8 => absurd c_8 (by omega)) (fun c_8 => ?_)
  refine lv_aload_n hx hb d_Md_step_11 rfl (lv_at hl 0 rfl) ?_
  refine va_get (D := (dC, dI)) (ci := 6) (v := .int (nI lv)) (C := R_Md) (T := F_Md) (N := 21) hx hb hts i_Md hown hK hP 0 rfl rfl 19 (by decide) (hts _ wd_582) (fun _ h9 => h9) rfl d_Md_step_12 ?_
  refine zn_if_ge (tgt := 20) hx hb (a := lv) (by omega) d_Md_step_15 (by decide) (fun _ => ?_) (fun c => c.elim)
  refine lv_aload_n hx hb d_Md_step_20 rfl (lv_at hl 0 rfl) ?_
  refine va_get (D := (dC, dI)) (ci := 6) (v := .int (nI mB)) (C := R_Md) (T := F_Md) (N := 21) hx hb hts i_Md hown hK hP 0 rfl rfl 18 (by decide) (hts _ wd_581) (fun _ h9 => h9) rfl d_Md_step_21 ?_
  refine lv_iconst (v := (nI 1)) hx hb d_Md_step_24 (by decide) ?_
  refine zn_iadd hx hb d_Md_step_25 ?_
  refine lv_istore_n (lv' := [(2, .int (nI (mB + 1))), (0, .ref h0), (1, .int (nI n))]) hx hb d_Md_step_26 rfl hl (by decide) rfl (fun ls hl => ?_)
  refine lv_iconst (v := (nI 0)) hx hb d_Md_step_27 (by decide) ?_
  refine lv_istore_n (lv' := [(3, .int (nI 0)), (2, .int (nI (mB + 1))), (0, .ref h0), (1, .int (nI n))]) hx hb d_Md_step_28 rfl hl (by decide) rfl (fun ls hl => ?_)
  have loop_29 : ∀ (fu : Nat) (j : Nat) (g : Nat → Int32), n - j < fu → (j ≤ n) → (j ≤ lv) → (g = zvis cp (fun p => znum mk p mL) (mB + 1) (8 - lv) (mst mB) (mf (mB + 1)) j) → ∀ (H : Heap) (locs : List Loc), va_P (dC, dI) vwCl ([(h0, zoMd mS mQ gK gV gH mL mo gM mch mA mP gI gR gT gF gS gE gC mB (nI (lv - j)) mz), (gK, zaI (cT 0) 1100 mk), (gT, zaZ (cT 2) 260 mt), (gF, zaZ (cT 2) 260 mf), (gS, zaN (cT 0) 260 mst), (gE, zaN (cT 0) 260 me), (gC, zaI (cT 0) 2080 g)]) H → va_D A ([(h0, zoMd mS mQ gK gV gH mL mo gM mch mA mP gI gR gT gF gS gE gC mB (nI (lv - j)) mz), (gK, zaI (cT 0) 1100 mk), (gT, zaZ (cT 2) 260 mt), (gF, zaZ (cT 2) 260 mf), (gS, zaN (cT 0) 260 mst), (gE, zaN (cT 0) 260 me), (gC, zaI (cT 0) 2080 g)]) → va_S A s.heap H locs → ∀ (ls : Array Slot), lv_has ls 6 [(0, .ref h0), (1, .int (nI n)), (2, .int (nI (mB + 1))), (3, .int (nI j))] → W p l e (headSpec w_Md_step ({ frames := 2, cells := 0, slots := 0, locals := 44 } : Room)).room s m ([.ref h0, .int (nI n)] : List Value).toArray below meth c H locs 0 0 (MQ below (zQ (dC, dI) vwCl (S := Unit) (fun zu => True) (fun zu => some (.int (nI 0))) (fun zu => [(h0, zoMd mS mQ gK gV gH mL mo gM mch mA mP gI gR gT gF gS gE gC (mB + 1) (-2) mz), (gK, zaI (cT 0) 1100 mk), (gT, zaZ (cT 2) 260 (va_up mt (mB + 1) true)), (gF, zaZ (cT 2) 260 mf), (gS, zaN (cT 0) 260 mst), (gE, zaN (cT 0) 260 (va_up me (mB + 1) mL)), (gC, zaI (cT 0) 2080 (zvis cp (fun p => znum mk p mL) (mB + 1) (8 - lv) (mst mB) (mf (mB + 1)) lv))]) A) ([.ref h0, .int (nI n)] : List Value).toArray s 0 0 A) (F0 m 29 ls []) := by
    intro fu
    induction fu with
    | zero => intro _ _ hm; exact absurd hm (Nat.not_lt_zero _)
    | succ fu ih_29 =>
      intro j g hm_29 h1 h2 hg H locs hP hD hS ls hl
      refine lv_iload_n hx hb d_Md_step_29 rfl (lv_at hl 3 rfl) ?_
      refine lv_iload_n hx hb d_Md_step_30 rfl (lv_at hl 1 rfl) ?_
      refine zn_icmp_ge (tgt := 111) hx hb (a := j) (b := n) (by omega) (by omega) d_Md_step_31 (by decide) (fun c_31 => ?_) (fun c_31 => ?_)
      · refine lv_aload_n hx hb d_Md_step_111 rfl (lv_at hl 0 rfl) ?_
        refine va_get (D := (dC, dI)) (ci := 6) (v := .int (nI (lv - j))) (C := R_Md) (T := F_Md) (N := 21) hx hb hts i_Md hown hK hP 0 rfl rfl 19 (by decide) (hts _ wd_582) (fun _ h9 => h9) rfl d_Md_step_112 ?_
        refine zn_if_le (tgt := 123) hx hb (a := lv - j) (by omega) d_Md_step_115 (by decide) (fun c_115 => ?_) (fun c_115 => absurd c_115 (by omega))
        refine lv_aload_n hx hb d_Md_step_123 rfl (lv_at hl 0 rfl) ?_
        refine zw_Q (X := [(h0, zoMd mS mQ gK gV gH mL mo gM mch mA mP gI gR gT gF gS gE gC mB (nI (lv - j)) mz), (gK, zaI (cT 0) 1100 mk), (gT, zaZ (cT 2) 260 mt), (gF, zaZ (cT 2) 260 mf), (gS, zaN (cT 0) 260 mst), (gE, zaN (cT 0) 260 me), (gC, zaI (cT 0) 2080 g)]) (pl := []) (va_runV (As := []) (rest := []) ⟨hx, hb, hml, hown, hts⟩ (c_Md_finish_keep l dC dI cT H.size h0 mS mQ gK gV gH mL mo gM mch mA mP gI gR gT gF gS gE gC mB (nI (lv - j)) mz mt mf mst me (by first | omega | assumption) (by first | omega | assumption) (by first | omega | assumption) (by first | omega | assumption)) (cwV 0 hts (zgV wd_696 wd_698 wp_15 wd_11 wd_699) rfl rfl rfl (by decide +kernel) ⟨Nat.le_of_ble_eq_true rfl, Nat.le_of_ble_eq_true rfl⟩) ⟨zPre_blind, va_recv hK hP (ci := 6) (q0 := 0) rfl rfl, zp_Q (X := [(h0, zoMd mS mQ gK gV gH mL mo gM mch mA mP gI gR gT gF gS gE gC mB (nI (lv - j)) mz), (gK, zaI (cT 0) 1100 mk), (gT, zaZ (cT 2) 260 mt), (gF, zaZ (cT 2) 260 mf), (gS, zaN (cT 0) 260 mst), (gE, zaN (cT 0) 260 me), (gC, zaI (cT 0) 2080 g)]) (pl := []) hK hE hP hD [0, 2, 3, 4, 5] (by decide) rfl⟩ rfl rfl hl.1 rfl (lv_room (Nat.le_of_ble_eq_true rfl)) d_Md_step_124 ⟨Nat.le_of_ble_eq_true rfl, Nat.le_of_ble_eq_true rfl⟩) hP hD hS hA [0, 2, 3, 4, 5] [1, 6] rfl (wr := [(gK, zaI (cT 0) 1100 mk), (gC, zaI (cT 0) 2080 g)]) rfl (by decide) (by decide) (fun zu => []) (fun _ => rfl) (fun zu H locs hφ hP hD hS => ?_)
        have hP : va_P (dC, dI) vwCl ([(gK, zaI (cT 0) 1100 mk), (gC, zaI (cT 0) 2080 g), (h0, zoMd mS mQ gK gV gH mL mo gM mch mA mP gI gR gT gF gS gE gC (mB + 1) (-2) mz), (gT, zaZ (cT 2) 260 (va_up mt (mB + 1) true)), (gF, zaZ (cT 2) 260 mf), (gS, zaN (cT 0) 260 mst), (gE, zaN (cT 0) 260 (va_up me (mB + 1) mL))]) H := hP
        have hD : va_D A ([(gK, zaI (cT 0) 1100 mk), (gC, zaI (cT 0) 2080 g), (h0, zoMd mS mQ gK gV gH mL mo gM mch mA mP gI gR gT gF gS gE gC (mB + 1) (-2) mz), (gT, zaZ (cT 2) 260 (va_up mt (mB + 1) true)), (gF, zaZ (cT 2) 260 mf), (gS, zaN (cT 0) 260 mst), (gE, zaN (cT 0) 260 (va_up me (mB + 1) mL))]) := hD
        refine lv_iconst (v := (nI 0)) hx hb d_Md_step_127 (by decide) ?_
        have hP9 := hP.sub (ws' := [(h0, zoMd mS mQ gK gV gH mL mo gM mch mA mP gI gR gT gF gS gE gC (mB + 1) (-2) mz), (gK, zaI (cT 0) 1100 mk), (gT, zaZ (cT 2) 260 (va_up mt (mB + 1) true)), (gF, zaZ (cT 2) 260 mf), (gS, zaN (cT 0) 260 mst), (gE, zaN (cT 0) 260 (va_up me (mB + 1) mL)), (gC, zaI (cT 0) 2080 g)]) [2, 0, 3, 4, 5, 6, 1] rfl
        have hD9 := hD.sub (ws' := [(h0, zoMd mS mQ gK gV gH mL mo gM mch mA mP gI gR gT gF gS gE gC (mB + 1) (-2) mz), (gK, zaI (cT 0) 1100 mk), (gT, zaZ (cT 2) 260 (va_up mt (mB + 1) true)), (gF, zaZ (cT 2) 260 mf), (gS, zaN (cT 0) 260 mst), (gE, zaN (cT 0) 260 (va_up me (mB + 1) mL)), (gC, zaI (cT 0) 2080 g)]) [2, 0, 3, 4, 5, 6, 1] (by decide) rfl
        rw [hg, show j = lv by omega] at hP9 hD9
        exact W.iret hx hb hr (fun t ht hW => ⟨⟨(), trivial, rfl, by rw [ht]; exact hP9, hD9⟩, hS.F ht⟩) hS.2.2 d_Md_step_128
      · refine lv_aload_n hx hb d_Md_step_34 rfl (lv_at hl 0 rfl) ?_
        refine va_get (D := (dC, dI)) (ci := 6) (v := .int (nI (lv - j))) (C := R_Md) (T := F_Md) (N := 21) hx hb hts i_Md hown hK hP 0 rfl rfl 19 (by decide) (hts _ wd_582) (fun _ h9 => h9) rfl d_Md_step_35 ?_
        refine zn_if_le (tgt := 111) hx hb (a := lv - j) (by omega) d_Md_step_38 (by decide) (fun c_38 => ?_) (fun c_38 => ?_)
        · refine lv_aload_n hx hb d_Md_step_111 rfl (lv_at hl 0 rfl) ?_
          refine va_get (D := (dC, dI)) (ci := 6) (v := .int (nI (lv - j))) (C := R_Md) (T := F_Md) (N := 21) hx hb hts i_Md hown hK hP 0 rfl rfl 19 (by decide) (hts _ wd_582) (fun _ h9 => h9) rfl d_Md_step_112 ?_
          refine zn_if_le (tgt := 123) hx hb (a := lv - j) (by omega) d_Md_step_115 (by decide) (fun c_115 => ?_) (fun c_115 => absurd c_115 (by omega))
          refine lv_aload_n hx hb d_Md_step_123 rfl (lv_at hl 0 rfl) ?_
          refine zw_Q (X := [(h0, zoMd mS mQ gK gV gH mL mo gM mch mA mP gI gR gT gF gS gE gC mB (nI (lv - j)) mz), (gK, zaI (cT 0) 1100 mk), (gT, zaZ (cT 2) 260 mt), (gF, zaZ (cT 2) 260 mf), (gS, zaN (cT 0) 260 mst), (gE, zaN (cT 0) 260 me), (gC, zaI (cT 0) 2080 g)]) (pl := []) (va_runV (As := []) (rest := []) ⟨hx, hb, hml, hown, hts⟩ (c_Md_finish_keep l dC dI cT H.size h0 mS mQ gK gV gH mL mo gM mch mA mP gI gR gT gF gS gE gC mB (nI (lv - j)) mz mt mf mst me (by first | omega | assumption) (by first | omega | assumption) (by first | omega | assumption) (by first | omega | assumption)) (cwV 0 hts (zgV wd_696 wd_698 wp_15 wd_11 wd_699) rfl rfl rfl (by decide +kernel) ⟨Nat.le_of_ble_eq_true rfl, Nat.le_of_ble_eq_true rfl⟩) ⟨zPre_blind, va_recv hK hP (ci := 6) (q0 := 0) rfl rfl, zp_Q (X := [(h0, zoMd mS mQ gK gV gH mL mo gM mch mA mP gI gR gT gF gS gE gC mB (nI (lv - j)) mz), (gK, zaI (cT 0) 1100 mk), (gT, zaZ (cT 2) 260 mt), (gF, zaZ (cT 2) 260 mf), (gS, zaN (cT 0) 260 mst), (gE, zaN (cT 0) 260 me), (gC, zaI (cT 0) 2080 g)]) (pl := []) hK hE hP hD [0, 2, 3, 4, 5] (by decide) rfl⟩ rfl rfl hl.1 rfl (lv_room (Nat.le_of_ble_eq_true rfl)) d_Md_step_124 ⟨Nat.le_of_ble_eq_true rfl, Nat.le_of_ble_eq_true rfl⟩) hP hD hS hA [0, 2, 3, 4, 5] [1, 6] rfl (wr := [(gK, zaI (cT 0) 1100 mk), (gC, zaI (cT 0) 2080 g)]) rfl (by decide) (by decide) (fun zu => []) (fun _ => rfl) (fun zu H locs hφ hP hD hS => ?_)
          have hP : va_P (dC, dI) vwCl ([(gK, zaI (cT 0) 1100 mk), (gC, zaI (cT 0) 2080 g), (h0, zoMd mS mQ gK gV gH mL mo gM mch mA mP gI gR gT gF gS gE gC (mB + 1) (-2) mz), (gT, zaZ (cT 2) 260 (va_up mt (mB + 1) true)), (gF, zaZ (cT 2) 260 mf), (gS, zaN (cT 0) 260 mst), (gE, zaN (cT 0) 260 (va_up me (mB + 1) mL))]) H := hP
          have hD : va_D A ([(gK, zaI (cT 0) 1100 mk), (gC, zaI (cT 0) 2080 g), (h0, zoMd mS mQ gK gV gH mL mo gM mch mA mP gI gR gT gF gS gE gC (mB + 1) (-2) mz), (gT, zaZ (cT 2) 260 (va_up mt (mB + 1) true)), (gF, zaZ (cT 2) 260 mf), (gS, zaN (cT 0) 260 mst), (gE, zaN (cT 0) 260 (va_up me (mB + 1) mL))]) := hD
          refine lv_iconst (v := (nI 0)) hx hb d_Md_step_127 (by decide) ?_
          have hP9 := hP.sub (ws' := [(h0, zoMd mS mQ gK gV gH mL mo gM mch mA mP gI gR gT gF gS gE gC (mB + 1) (-2) mz), (gK, zaI (cT 0) 1100 mk), (gT, zaZ (cT 2) 260 (va_up mt (mB + 1) true)), (gF, zaZ (cT 2) 260 mf), (gS, zaN (cT 0) 260 mst), (gE, zaN (cT 0) 260 (va_up me (mB + 1) mL)), (gC, zaI (cT 0) 2080 g)]) [2, 0, 3, 4, 5, 6, 1] rfl
          have hD9 := hD.sub (ws' := [(h0, zoMd mS mQ gK gV gH mL mo gM mch mA mP gI gR gT gF gS gE gC (mB + 1) (-2) mz), (gK, zaI (cT 0) 1100 mk), (gT, zaZ (cT 2) 260 (va_up mt (mB + 1) true)), (gF, zaZ (cT 2) 260 mf), (gS, zaN (cT 0) 260 mst), (gE, zaN (cT 0) 260 (va_up me (mB + 1) mL)), (gC, zaI (cT 0) 2080 g)]) [2, 0, 3, 4, 5, 6, 1] (by decide) rfl
          rw [hg, show j = lv by omega] at hP9 hD9
          exact W.iret hx hb hr (fun t ht hW => ⟨⟨(), trivial, rfl, by rw [ht]; exact hP9, hD9⟩, hS.F ht⟩) hS.2.2 d_Md_step_128
        · refine lv_bipush (v := (nI 8)) hx hb d_Md_step_41 (by decide) ?_
          refine lv_aload_n hx hb d_Md_step_43 rfl (lv_at hl 0 rfl) ?_
          refine va_get (D := (dC, dI)) (ci := 6) (v := .int (nI (lv - j))) (C := R_Md) (T := F_Md) (N := 21) hx hb hts i_Md hown hK hP 0 rfl rfl 19 (by decide) (hts _ wd_582) (fun _ h9 => h9) rfl d_Md_step_44 ?_
          refine zn_isub hx hb (by omega) d_Md_step_47 ?_
          refine lv_istore (lv' := [(4, .int (nI (8 - (lv - j)))), (0, .ref h0), (1, .int (nI n)), (2, .int (nI (mB + 1))), (3, .int (nI j))]) hx hb d_Md_step_48 hl (by decide) rfl (fun ls hl => ?_)
          have hl : lv_has ls 6 [(4, .int (nI (8 - lv + j))), (0, .ref h0), (1, .int (nI n)), (2, .int (nI (mB + 1))), (3, .int (nI j))] := by rw [← (congrArg nI (show 8 - (lv - j) = 8 - lv + j by omega))]; exact hl
          refine lv_aload_n hx hb d_Md_step_50 rfl (lv_at hl 1 rfl) ?_
          refine lv_iload hx hb d_Md_step_51 (lv_at hl 0 rfl) ?_
          refine zw_R (r := .int (nI (znum mk (8 - lv + j) mL))) (va_runV (As := [.int (nI (8 - lv + j))]) (rest := []) ⟨hx, hb, hml, hown, hts⟩ (c_Md_numberOf l dC dI cT h0 mS mQ gK gV gH mL mo gM mch mA mP gI gR gT gF gS gE gC mB (nI (lv - j)) mz (8 - lv + j) mk (by first | omega | assumption) (by first | omega | assumption) (by first | omega | assumption)) (cwV 1 hts (zgV wd_676 wd_678 wp_13 wd_11 wd_679) rfl rfl rfl (by decide +kernel) ⟨Nat.le_of_ble_eq_true rfl, Nat.le_of_ble_eq_true rfl⟩) ⟨zPreR_blind, va_recv hK hP (ci := 6) (q0 := 0) rfl rfl, zp_R hK hE (zSub (X := [(h0, zoMd mS mQ gK gV gH mL mo gM mch mA mP gI gR gT gF gS gE gC mB (nI (lv - j)) mz), (gK, zaI (cT 0) 1100 mk), (gT, zaZ (cT 2) 260 mt), (gF, zaZ (cT 2) 260 mf), (gS, zaN (cT 0) 260 mst), (gE, zaN (cT 0) 260 me), (gC, zaI (cT 0) 2080 g)]) (pl := []) hP [0, 1] rfl)⟩ rfl rfl hl.1 rfl (lv_room (Nat.le_of_ble_eq_true rfl)) d_Md_step_53 ⟨Nat.le_of_ble_eq_true rfl, Nat.le_of_ble_eq_true rfl⟩) ?_
          refine lv_istore (lv' := [(5, .int (nI (znum mk (8 - lv + j) mL))), (4, .int (nI (8 - lv + j))), (0, .ref h0), (1, .int (nI n)), (2, .int (nI (mB + 1))), (3, .int (nI j))]) hx hb d_Md_step_56 hl (by decide) rfl (fun ls hl => ?_)
          have hnu := znum_le mk (8 - lv + j) mL
          refine lv_aload_n hx hb d_Md_step_58 rfl (lv_at hl 2 rfl) ?_
          refine va_get (D := (dC, dI)) (ci := 6) (v := .ref gF) (C := R_Md) (T := F_Md) (N := 21) hx hb hts i_Md hown hK hP 0 rfl rfl 14 (by decide) (hts _ wd_577) (fun _ h9 => h9) rfl d_Md_step_59 ?_
          refine lv_iload_n hx hb d_Md_step_62 rfl (lv_at hl 4 rfl) ?_
          refine zn_zald hx hb hK hP 3 2 rfl rfl (i := mB + 1) (by omega) (by omega) d_Md_step_63 ?_
          refine zb_if_ne (tgt := 81) hx hb d_Md_step_64 (by decide) (fun c_64 => ?_) (fun c_64 => ?_)
          · refine lv_aload_n hx hb d_Md_step_81 rfl (lv_at hl 2 rfl) ?_
            refine va_get (D := (dC, dI)) (ci := 6) (v := .ref gC) (C := R_Md) (T := F_Md) (N := 21) hx hb hts i_Md hown hK hP 0 rfl rfl 17 (by decide) (hts _ wd_580) (fun _ h9 => h9) rfl d_Md_step_82 ?_
            refine lv_iload_n hx hb d_Md_step_85 rfl (lv_at hl 4 rfl) ?_
            refine lv_bipush (v := (nI 8)) hx hb d_Md_step_86 (by decide) ?_
            refine zn_imul hx hb d_Md_step_88 ?_
            refine lv_iload hx hb d_Md_step_89 (lv_at hl 1 rfl) ?_
            refine zn_iadd hx hb d_Md_step_91 ?_
            refine lv_iload hx hb d_Md_step_92 (lv_at hl 0 rfl) ?_
            refine zn_iast hx hb hK hP hD hS 6 0 rfl rfl (i := ((mB + 1) * 8) + (8 - lv + j)) (x := (nI (znum mk (8 - lv + j) mL))) (by omega) (by omega) d_Md_step_94 (fun H locs hP hD hS => ?_)
            have hP : va_P (dC, dI) vwCl ([(h0, zoMd mS mQ gK gV gH mL mo gM mch mA mP gI gR gT gF gS gE gC mB (nI (lv - j)) mz), (gK, zaI (cT 0) 1100 mk), (gT, zaZ (cT 2) 260 mt), (gF, zaZ (cT 2) 260 mf), (gS, zaN (cT 0) 260 mst), (gE, zaN (cT 0) 260 me), (gC, zaI (cT 0) 2080 (va_up g (((mB + 1) * 8) + (8 - lv + j)) (nI (znum mk (8 - lv + j) mL))))]) H := hP
            have hD : va_D A ([(h0, zoMd mS mQ gK gV gH mL mo gM mch mA mP gI gR gT gF gS gE gC mB (nI (lv - j)) mz), (gK, zaI (cT 0) 1100 mk), (gT, zaZ (cT 2) 260 mt), (gF, zaZ (cT 2) 260 mf), (gS, zaN (cT 0) 260 mst), (gE, zaN (cT 0) 260 me), (gC, zaI (cT 0) 2080 (va_up g (((mB + 1) * 8) + (8 - lv + j)) (nI (znum mk (8 - lv + j) mL))))]) := hD
            refine lv_aload_n hx hb d_Md_step_95 rfl (lv_at hl 2 rfl) ?_
            refine lv_dup hx hb d_Md_step_96 rfl ?_
            refine va_get (D := (dC, dI)) (ci := 6) (v := .int (nI (lv - j))) (C := R_Md) (T := F_Md) (N := 21) hx hb hts i_Md hown hK hP 0 rfl rfl 19 (by decide) (hts _ wd_582) (fun _ h9 => h9) rfl d_Md_step_97 ?_
            refine lv_iconst (v := (nI 1)) hx hb d_Md_step_100 (by decide) ?_
            refine zn_isub hx hb (by omega) d_Md_step_101 ?_
            refine va_put (D := (dC, dI)) (ci := 6) (v := .int (nI ((lv - j) - 1))) (ty := .int) (C := R_Md) (T := F_Md) (N := 21) hx hb hts i_Md t_Md t_Md_ok n_Md hown hK hP hD hS 0 rfl rfl 19 (by decide) (hts _ wd_582) (fun _ h9 => h9) rfl (by decide +kernel) rfl rfl (Nat.le_of_ble_eq_true rfl) d_Md_step_102 (fun H locs hP hD hS => ?_)
            have hP : va_P (dC, dI) vwCl ([(h0, zoMd mS mQ gK gV gH mL mo gM mch mA mP gI gR gT gF gS gE gC mB (nI ((lv - j) - 1)) mz), (gK, zaI (cT 0) 1100 mk), (gT, zaZ (cT 2) 260 mt), (gF, zaZ (cT 2) 260 mf), (gS, zaN (cT 0) 260 mst), (gE, zaN (cT 0) 260 me), (gC, zaI (cT 0) 2080 (va_up g (((mB + 1) * 8) + (8 - lv + j)) (nI (znum mk (8 - lv + j) mL))))]) H := hP
            have hD : va_D A ([(h0, zoMd mS mQ gK gV gH mL mo gM mch mA mP gI gR gT gF gS gE gC mB (nI ((lv - j) - 1)) mz), (gK, zaI (cT 0) 1100 mk), (gT, zaZ (cT 2) 260 mt), (gF, zaZ (cT 2) 260 mf), (gS, zaN (cT 0) 260 mst), (gE, zaN (cT 0) 260 me), (gC, zaI (cT 0) 2080 (va_up g (((mB + 1) * 8) + (8 - lv + j)) (nI (znum mk (8 - lv + j) mL))))]) := hD
            refine lv_iinc (v := (nI (j + 1))) (lv' := [(3, .int (nI (j + 1))), (5, .int (nI (znum mk (8 - lv + j) mL))), (4, .int (nI (8 - lv + j))), (0, .ref h0), (1, .int (nI n)), (2, .int (nI (mB + 1)))]) hx hb d_Md_step_105 hl (k := 5) rfl (nI_1 _) (by decide) rfl (fun ls hl => ?_)
            refine lv_goto (tgt := 29) hx hb d_Md_step_108 (by decide) ?_
            exact ih_29 (j + 1) (va_up g (((mB + 1) * 8) + (8 - lv + j)) (nI (znum mk (8 - lv + j) mL))) (by omega) (by first | omega | assumption) (by first | omega | assumption) (by rw [zvis, if_pos (Or.inl c_64), hg]) H locs (hP.sub [0, 1, 2, 3, 4, 5, 6] rfl) (hD.sub [0, 1, 2, 3, 4, 5, 6] (by decide) rfl) hS ls (lv_sub hl [3, 4, 5, 0] rfl)
          · refine lv_iload hx hb d_Md_step_67 (lv_at hl 0 rfl) ?_
            refine lv_aload_n hx hb d_Md_step_69 rfl (lv_at hl 2 rfl) ?_
            refine va_get (D := (dC, dI)) (ci := 6) (v := .ref gS) (C := R_Md) (T := F_Md) (N := 21) hx hb hts i_Md hown hK hP 0 rfl rfl 15 (by decide) (hts _ wd_578) (fun _ h9 => h9) rfl d_Md_step_70 ?_
            refine lv_aload_n hx hb d_Md_step_73 rfl (lv_at hl 2 rfl) ?_
            refine va_get (D := (dC, dI)) (ci := 6) (v := .int (nI mB)) (C := R_Md) (T := F_Md) (N := 21) hx hb hts i_Md hown hK hP 0 rfl rfl 18 (by decide) (hts _ wd_581) (fun _ h9 => h9) rfl d_Md_step_74 ?_
            refine zn_iald hx hb hK hP 4 0 rfl rfl (i := mB) (by omega) (by omega) d_Md_step_77 ?_
            refine zn_icmp_le (tgt := 95) hx hb (a := znum mk (8 - lv + j) mL) (b := mst mB) (by omega) (by omega) d_Md_step_78 (by decide) (fun c_78 => ?_) (fun c_78 => ?_)
            · refine lv_aload_n hx hb d_Md_step_95 rfl (lv_at hl 2 rfl) ?_
              refine lv_dup hx hb d_Md_step_96 rfl ?_
              refine va_get (D := (dC, dI)) (ci := 6) (v := .int (nI (lv - j))) (C := R_Md) (T := F_Md) (N := 21) hx hb hts i_Md hown hK hP 0 rfl rfl 19 (by decide) (hts _ wd_582) (fun _ h9 => h9) rfl d_Md_step_97 ?_
              refine lv_iconst (v := (nI 1)) hx hb d_Md_step_100 (by decide) ?_
              refine zn_isub hx hb (by omega) d_Md_step_101 ?_
              refine va_put (D := (dC, dI)) (ci := 6) (v := .int (nI ((lv - j) - 1))) (ty := .int) (C := R_Md) (T := F_Md) (N := 21) hx hb hts i_Md t_Md t_Md_ok n_Md hown hK hP hD hS 0 rfl rfl 19 (by decide) (hts _ wd_582) (fun _ h9 => h9) rfl (by decide +kernel) rfl rfl (Nat.le_of_ble_eq_true rfl) d_Md_step_102 (fun H locs hP hD hS => ?_)
              have hP : va_P (dC, dI) vwCl ([(h0, zoMd mS mQ gK gV gH mL mo gM mch mA mP gI gR gT gF gS gE gC mB (nI ((lv - j) - 1)) mz), (gK, zaI (cT 0) 1100 mk), (gT, zaZ (cT 2) 260 mt), (gF, zaZ (cT 2) 260 mf), (gS, zaN (cT 0) 260 mst), (gE, zaN (cT 0) 260 me), (gC, zaI (cT 0) 2080 g)]) H := hP
              have hD : va_D A ([(h0, zoMd mS mQ gK gV gH mL mo gM mch mA mP gI gR gT gF gS gE gC mB (nI ((lv - j) - 1)) mz), (gK, zaI (cT 0) 1100 mk), (gT, zaZ (cT 2) 260 mt), (gF, zaZ (cT 2) 260 mf), (gS, zaN (cT 0) 260 mst), (gE, zaN (cT 0) 260 me), (gC, zaI (cT 0) 2080 g)]) := hD
              refine lv_iinc (v := (nI (j + 1))) (lv' := [(3, .int (nI (j + 1))), (5, .int (nI (znum mk (8 - lv + j) mL))), (4, .int (nI (8 - lv + j))), (0, .ref h0), (1, .int (nI n)), (2, .int (nI (mB + 1)))]) hx hb d_Md_step_105 hl (k := 5) rfl (nI_1 _) (by decide) rfl (fun ls hl => ?_)
              refine lv_goto (tgt := 29) hx hb d_Md_step_108 (by decide) ?_
              exact ih_29 (j + 1) g (by omega) (by first | omega | assumption) (by first | omega | assumption) (by rw [zvis, if_neg (fun q => q.elim (fun q1 => by rw [c_64] at q1; exact absurd q1 (by decide)) (fun q2 => absurd q2 (Nat.not_lt.mpr c_78))), hg]) H locs (hP.sub [0, 1, 2, 3, 4, 5, 6] rfl) (hD.sub [0, 1, 2, 3, 4, 5, 6] (by decide) rfl) hS ls (lv_sub hl [3, 4, 5, 0] rfl)
            · refine lv_aload_n hx hb d_Md_step_81 rfl (lv_at hl 2 rfl) ?_
              refine va_get (D := (dC, dI)) (ci := 6) (v := .ref gC) (C := R_Md) (T := F_Md) (N := 21) hx hb hts i_Md hown hK hP 0 rfl rfl 17 (by decide) (hts _ wd_580) (fun _ h9 => h9) rfl d_Md_step_82 ?_
              refine lv_iload_n hx hb d_Md_step_85 rfl (lv_at hl 4 rfl) ?_
              refine lv_bipush (v := (nI 8)) hx hb d_Md_step_86 (by decide) ?_
              refine zn_imul hx hb d_Md_step_88 ?_
              refine lv_iload hx hb d_Md_step_89 (lv_at hl 1 rfl) ?_
              refine zn_iadd hx hb d_Md_step_91 ?_
              refine lv_iload hx hb d_Md_step_92 (lv_at hl 0 rfl) ?_
              refine zn_iast hx hb hK hP hD hS 6 0 rfl rfl (i := ((mB + 1) * 8) + (8 - lv + j)) (x := (nI (znum mk (8 - lv + j) mL))) (by omega) (by omega) d_Md_step_94 (fun H locs hP hD hS => ?_)
              have hP : va_P (dC, dI) vwCl ([(h0, zoMd mS mQ gK gV gH mL mo gM mch mA mP gI gR gT gF gS gE gC mB (nI (lv - j)) mz), (gK, zaI (cT 0) 1100 mk), (gT, zaZ (cT 2) 260 mt), (gF, zaZ (cT 2) 260 mf), (gS, zaN (cT 0) 260 mst), (gE, zaN (cT 0) 260 me), (gC, zaI (cT 0) 2080 (va_up g (((mB + 1) * 8) + (8 - lv + j)) (nI (znum mk (8 - lv + j) mL))))]) H := hP
              have hD : va_D A ([(h0, zoMd mS mQ gK gV gH mL mo gM mch mA mP gI gR gT gF gS gE gC mB (nI (lv - j)) mz), (gK, zaI (cT 0) 1100 mk), (gT, zaZ (cT 2) 260 mt), (gF, zaZ (cT 2) 260 mf), (gS, zaN (cT 0) 260 mst), (gE, zaN (cT 0) 260 me), (gC, zaI (cT 0) 2080 (va_up g (((mB + 1) * 8) + (8 - lv + j)) (nI (znum mk (8 - lv + j) mL))))]) := hD
              refine lv_aload_n hx hb d_Md_step_95 rfl (lv_at hl 2 rfl) ?_
              refine lv_dup hx hb d_Md_step_96 rfl ?_
              refine va_get (D := (dC, dI)) (ci := 6) (v := .int (nI (lv - j))) (C := R_Md) (T := F_Md) (N := 21) hx hb hts i_Md hown hK hP 0 rfl rfl 19 (by decide) (hts _ wd_582) (fun _ h9 => h9) rfl d_Md_step_97 ?_
              refine lv_iconst (v := (nI 1)) hx hb d_Md_step_100 (by decide) ?_
              refine zn_isub hx hb (by omega) d_Md_step_101 ?_
              refine va_put (D := (dC, dI)) (ci := 6) (v := .int (nI ((lv - j) - 1))) (ty := .int) (C := R_Md) (T := F_Md) (N := 21) hx hb hts i_Md t_Md t_Md_ok n_Md hown hK hP hD hS 0 rfl rfl 19 (by decide) (hts _ wd_582) (fun _ h9 => h9) rfl (by decide +kernel) rfl rfl (Nat.le_of_ble_eq_true rfl) d_Md_step_102 (fun H locs hP hD hS => ?_)
              have hP : va_P (dC, dI) vwCl ([(h0, zoMd mS mQ gK gV gH mL mo gM mch mA mP gI gR gT gF gS gE gC mB (nI ((lv - j) - 1)) mz), (gK, zaI (cT 0) 1100 mk), (gT, zaZ (cT 2) 260 mt), (gF, zaZ (cT 2) 260 mf), (gS, zaN (cT 0) 260 mst), (gE, zaN (cT 0) 260 me), (gC, zaI (cT 0) 2080 (va_up g (((mB + 1) * 8) + (8 - lv + j)) (nI (znum mk (8 - lv + j) mL))))]) H := hP
              have hD : va_D A ([(h0, zoMd mS mQ gK gV gH mL mo gM mch mA mP gI gR gT gF gS gE gC mB (nI ((lv - j) - 1)) mz), (gK, zaI (cT 0) 1100 mk), (gT, zaZ (cT 2) 260 mt), (gF, zaZ (cT 2) 260 mf), (gS, zaN (cT 0) 260 mst), (gE, zaN (cT 0) 260 me), (gC, zaI (cT 0) 2080 (va_up g (((mB + 1) * 8) + (8 - lv + j)) (nI (znum mk (8 - lv + j) mL))))]) := hD
              refine lv_iinc (v := (nI (j + 1))) (lv' := [(3, .int (nI (j + 1))), (5, .int (nI (znum mk (8 - lv + j) mL))), (4, .int (nI (8 - lv + j))), (0, .ref h0), (1, .int (nI n)), (2, .int (nI (mB + 1)))]) hx hb d_Md_step_105 hl (k := 5) rfl (nI_1 _) (by decide) rfl (fun ls hl => ?_)
              refine lv_goto (tgt := 29) hx hb d_Md_step_108 (by decide) ?_
              exact ih_29 (j + 1) (va_up g (((mB + 1) * 8) + (8 - lv + j)) (nI (znum mk (8 - lv + j) mL))) (by omega) (by first | omega | assumption) (by first | omega | assumption) (by rw [zvis, if_pos (Or.inr c_78), hg]) H locs (hP.sub [0, 1, 2, 3, 4, 5, 6] rfl) (hD.sub [0, 1, 2, 3, 4, 5, 6] (by decide) rfl) hS ls (lv_sub hl [3, 4, 5, 0] rfl)
  exact loop_29 (n - 0 + 1) 0 cp (by omega) (by first | omega | assumption) (by first | omega | assumption) rfl s.heap [] (hP.sub [0, 1, 2, 3, 4, 5, 6] rfl) (hD.sub [0, 1, 2, 3, 4, 5, 6] (by decide) rfl) hS ls (lv_sub hl [2, 3, 1, 0] rfl)
set_option maxHeartbeats 4000000 in
set_option maxRecDepth 100000 in
theorem c_Md_step_drop (l : Launch) (dC : Nat → ClassId) (dI : Nat → Nat → Nat) (cT : Nat → ClassId) (sz : Nat) (h0 : Nat) (mS : Nat) (mQ : Nat) (gK : Nat) (gV : Nat) (gH : Nat) (mL : Nat) (mo : Bool) (gM : Nat) (mch : Nat) (mA : Nat) (mP : Nat) (gI : Nat) (gR : Nat) (gT : Nat) (gF : Nat) (gS : Nat) (gE : Nat) (gC : Nat) (mB : Nat) (mz : Int32) (lv : Nat) (n : Nat) (r1 : Nat) (r2 : Nat) (mk : Nat → Int32) (mt : Nat → Bool) (mf : Nat → Bool) (mst : Nat → Nat) (me : Nat → Nat) (cp : Nat → Int32) (hL : mL ≤ 1000) (hkey : ∀ i, 1 ≤ i → i ≤ mL → ¬ mk i < 0 → isIn (mk i) 32 = true) (hB : mB ≤ 255) (hn1 : 1 ≤ n) (hn8 : n ≤ 8) (hl1 : 1 ≤ lv) (hl8 : lv ≤ 8) (hst0 : mst mB ≤ 1000) (hpa : lv ≤ n) (hf : mf (mB + 1) = true) (hQ : mQ ≤ 3) (hgt : mQ < zful (va_up mt (mB + 1) true) mf (mB + 1)) (hs0 : 0 < mS) (hs8 : mS ≤ 8) (hst : mst r2 ≤ 1000) (hA : mA < 2 ^ 30) (hP0 : mP < 2 ^ 30) (hdv : mst r2 / mS ≤ 1000) (h1a : 1 ≤ r1) (h1b : r1 ≤ mB + 1) (h1c : ∀ b, 1 ≤ b → b < r1 → ¬ ((va_up mt (mB + 1) true) b = true ∧ mf b = true)) (h1d : r1 ≤ mB + 1 → (va_up mt (mB + 1) true) r1 = true ∧ mf r1 = true) (h2a : r1 + 1 ≤ r2) (h2b : r2 ≤ mB + 1) (h2c : ∀ b, r1 + 1 ≤ b → b < r2 → ¬ ((va_up mt (mB + 1) true) b = true ∧ mf b = true)) (h2d : r2 ≤ mB + 1 → (va_up mt (mB + 1) true) r2 = true ∧ mf r2 = true) : Met l y_Md_step w_Md_step ({ frames := 2, cells := 0, slots := 0, locals := 44 } : Room) (zPre (dC, dI) vwCl (zT cT) [.ref h0, .int (nI n)] ([(h0, zoMd mS mQ gK gV gH mL mo gM mch mA mP gI gR gT gF gS gE gC mB (nI lv) mz), (gK, zaI (cT 0) 1100 mk), (gT, zaZ (cT 2) 260 mt), (gF, zaZ (cT 2) 260 mf), (gS, zaN (cT 0) 260 mst), (gE, zaN (cT 0) 260 me), (gC, zaI (cT 0) 2080 cp)]) sz) (zQ (dC, dI) vwCl (S := Unit) (fun zu => True) (fun zu => some (.int (nI 0))) (fun zu => [(h0, zoMd mS mQ gK gV gH mL mo gM mch mA (max mP (min mA (mst r2 / mS))) gI gR gT gF gS gE gC (mB + 1) (-2) mz), (gK, zaI (cT 0) 1100 mk), (gT, zaZ (cT 2) 260 (zdr (va_up mt (mB + 1) true) r2)), (gF, zaZ (cT 2) 260 mf), (gS, zaN (cT 0) 260 mst), (gE, zaN (cT 0) 260 (va_up me (mB + 1) mL)), (gC, zaI (cT 0) 2080 (zvis cp (fun p => znum mk p mL) (mB + 1) (8 - lv) (mst mB) (mf (mB + 1)) lv))]) (va_A ([(h0, zoMd mS mQ gK gV gH mL mo gM mch mA mP gI gR gT gF gS gE gC mB (nI lv) mz), (gK, zaI (cT 0) 1100 mk), (gT, zaZ (cT 2) 260 mt), (gF, zaZ (cT 2) 260 mf), (gS, zaN (cT 0) 260 mst), (gE, zaN (cT 0) 260 me), (gC, zaI (cT 0) 2080 cp)]) sz)) 0 0 (va_A ([(h0, zoMd mS mQ gK gV gH mL mo gM mch mA mP gI gR gT gF gS gE gC mB (nI lv) mz), (gK, zaI (cT 0) 1100 mk), (gT, zaZ (cT 2) 260 mt), (gF, zaZ (cT 2) 260 mf), (gS, zaN (cT 0) 260 mst), (gE, zaN (cT 0) 260 me), (gC, zaI (cT 0) 2080 cp)]) sz) := by
  refine Met.ofW (cc := b_Md_step) (maxL := 6) (ret := (some .int)) (by decide) rfl ?_
  intro p e s m args below meth c s₁ B hml hv
  obtain ⟨rfl, hsz, hP, hK, hD0, hE⟩ := hv
  have hx := B.exec
  have hb := B.bytes
  have hr := B.returns
  have hts := fun w h => atoms_spec (ws := w_Md_step) B.pre w (List.mem_cons_of_mem _ h)
  have hown : s.vm.findClass R_Md = some m.cls := findClass_of_methodNamed B.named
  have hlocks := B.notSynchronized
  subst hsz
  have hD := hD0.self (sz := s.heap.size)
  generalize hAe : va_A ([(h0, zoMd mS mQ gK gV gH mL mo gM mch mA mP gI gR gT gF gS gE gC mB (nI lv) mz), (gK, zaI (cT 0) 1100 mk), (gT, zaZ (cT 2) 260 mt), (gF, zaZ (cT 2) 260 mf), (gS, zaN (cT 0) 260 mst), (gE, zaN (cT 0) 260 me), (gC, zaI (cT 0) 2080 cp)]) s.heap.size = A at hD ⊢
  have hA : ∀ q : Nat, s.heap.size ≤ q → A q := fun q h => by rw [← hAe]; exact Or.inr h
  have hS : va_S A s.heap s.heap [] := va_S.rf
  have hl := lv_entry ([.ref h0, .int (nI n)]) (n := 6) (Nat.le_of_ble_eq_true rfl)
  rw [lg_entry_eq]
  generalize (lg_sl ([.ref h0, .int (nI n)]) ++ List.replicate (6 - (lg_sl ([.ref h0, .int (nI n)])).length) Slot.unset).toArray = ls at hl ⊢
  have hl : lv_has ls 6 [(0, .ref h0), (1, .int (nI n))] := hl
  refine lv_iload_n hx hb d_Md_step_0 rfl (lv_at hl 1 rfl) ?_
  refine lv_iconst (v := (nI 1)) hx hb d_Md_step_1 (by decide) ?_
  refine zn_icmp_lt (tgt := 18) hx hb (a := n) (b := 1) (by omega) (by omega) d_Md_step_2 (by decide) (fun c_2 => absurd c_2 (by omega)) (fun c_2 => ?_)
  refine lv_iload_n hx hb d_Md_step_5 rfl (lv_at hl 1 rfl) ?_
  refine lv_bipush (v := (nI 8)) hx hb d_Md_step_6 (by decide) ?_
  refine zn_icmp_gt (tgt := 18) hx hb (a := n) (b := 8) (by omega) (by omega) d_Md_step_8 (by decide) (fun c_8 => absurd c_8 (by omega)) (fun c_8 => ?_)
  refine lv_aload_n hx hb d_Md_step_11 rfl (lv_at hl 0 rfl) ?_
  refine va_get (D := (dC, dI)) (ci := 6) (v := .int (nI lv)) (C := R_Md) (T := F_Md) (N := 21) hx hb hts i_Md hown hK hP 0 rfl rfl 19 (by decide) (hts _ wd_582) (fun _ h9 => h9) rfl d_Md_step_12 ?_
  refine zn_if_ge (tgt := 20) hx hb (a := lv) (by omega) d_Md_step_15 (by decide) (fun _ => ?_) (fun c => c.elim)
  refine lv_aload_n hx hb d_Md_step_20 rfl (lv_at hl 0 rfl) ?_
  refine va_get (D := (dC, dI)) (ci := 6) (v := .int (nI mB)) (C := R_Md) (T := F_Md) (N := 21) hx hb hts i_Md hown hK hP 0 rfl rfl 18 (by decide) (hts _ wd_581) (fun _ h9 => h9) rfl d_Md_step_21 ?_
  refine lv_iconst (v := (nI 1)) hx hb d_Md_step_24 (by decide) ?_
  refine zn_iadd hx hb d_Md_step_25 ?_
  refine lv_istore_n (lv' := [(2, .int (nI (mB + 1))), (0, .ref h0), (1, .int (nI n))]) hx hb d_Md_step_26 rfl hl (by decide) rfl (fun ls hl => ?_)
  refine lv_iconst (v := (nI 0)) hx hb d_Md_step_27 (by decide) ?_
  refine lv_istore_n (lv' := [(3, .int (nI 0)), (2, .int (nI (mB + 1))), (0, .ref h0), (1, .int (nI n))]) hx hb d_Md_step_28 rfl hl (by decide) rfl (fun ls hl => ?_)
  have loop_29 : ∀ (fu : Nat) (j : Nat) (g : Nat → Int32), n - j < fu → (j ≤ n) → (j ≤ lv) → (g = zvis cp (fun p => znum mk p mL) (mB + 1) (8 - lv) (mst mB) (mf (mB + 1)) j) → ∀ (H : Heap) (locs : List Loc), va_P (dC, dI) vwCl ([(h0, zoMd mS mQ gK gV gH mL mo gM mch mA mP gI gR gT gF gS gE gC mB (nI (lv - j)) mz), (gK, zaI (cT 0) 1100 mk), (gT, zaZ (cT 2) 260 mt), (gF, zaZ (cT 2) 260 mf), (gS, zaN (cT 0) 260 mst), (gE, zaN (cT 0) 260 me), (gC, zaI (cT 0) 2080 g)]) H → va_D A ([(h0, zoMd mS mQ gK gV gH mL mo gM mch mA mP gI gR gT gF gS gE gC mB (nI (lv - j)) mz), (gK, zaI (cT 0) 1100 mk), (gT, zaZ (cT 2) 260 mt), (gF, zaZ (cT 2) 260 mf), (gS, zaN (cT 0) 260 mst), (gE, zaN (cT 0) 260 me), (gC, zaI (cT 0) 2080 g)]) → va_S A s.heap H locs → ∀ (ls : Array Slot), lv_has ls 6 [(0, .ref h0), (1, .int (nI n)), (2, .int (nI (mB + 1))), (3, .int (nI j))] → W p l e (headSpec w_Md_step ({ frames := 2, cells := 0, slots := 0, locals := 44 } : Room)).room s m ([.ref h0, .int (nI n)] : List Value).toArray below meth c H locs 0 0 (MQ below (zQ (dC, dI) vwCl (S := Unit) (fun zu => True) (fun zu => some (.int (nI 0))) (fun zu => [(h0, zoMd mS mQ gK gV gH mL mo gM mch mA (max mP (min mA (mst r2 / mS))) gI gR gT gF gS gE gC (mB + 1) (-2) mz), (gK, zaI (cT 0) 1100 mk), (gT, zaZ (cT 2) 260 (zdr (va_up mt (mB + 1) true) r2)), (gF, zaZ (cT 2) 260 mf), (gS, zaN (cT 0) 260 mst), (gE, zaN (cT 0) 260 (va_up me (mB + 1) mL)), (gC, zaI (cT 0) 2080 (zvis cp (fun p => znum mk p mL) (mB + 1) (8 - lv) (mst mB) (mf (mB + 1)) lv))]) A) ([.ref h0, .int (nI n)] : List Value).toArray s 0 0 A) (F0 m 29 ls []) := by
    intro fu
    induction fu with
    | zero => intro _ _ hm; exact absurd hm (Nat.not_lt_zero _)
    | succ fu ih_29 =>
      intro j g hm_29 h1 h2 hg H locs hP hD hS ls hl
      refine lv_iload_n hx hb d_Md_step_29 rfl (lv_at hl 3 rfl) ?_
      refine lv_iload_n hx hb d_Md_step_30 rfl (lv_at hl 1 rfl) ?_
      refine zn_icmp_ge (tgt := 111) hx hb (a := j) (b := n) (by omega) (by omega) d_Md_step_31 (by decide) (fun c_31 => ?_) (fun c_31 => ?_)
      · refine lv_aload_n hx hb d_Md_step_111 rfl (lv_at hl 0 rfl) ?_
        refine va_get (D := (dC, dI)) (ci := 6) (v := .int (nI (lv - j))) (C := R_Md) (T := F_Md) (N := 21) hx hb hts i_Md hown hK hP 0 rfl rfl 19 (by decide) (hts _ wd_582) (fun _ h9 => h9) rfl d_Md_step_112 ?_
        refine zn_if_le (tgt := 123) hx hb (a := lv - j) (by omega) d_Md_step_115 (by decide) (fun c_115 => ?_) (fun c_115 => absurd c_115 (by omega))
        refine lv_aload_n hx hb d_Md_step_123 rfl (lv_at hl 0 rfl) ?_
        refine zw_Q (X := [(h0, zoMd mS mQ gK gV gH mL mo gM mch mA mP gI gR gT gF gS gE gC mB (nI (lv - j)) mz), (gK, zaI (cT 0) 1100 mk), (gT, zaZ (cT 2) 260 mt), (gF, zaZ (cT 2) 260 mf), (gS, zaN (cT 0) 260 mst), (gE, zaN (cT 0) 260 me), (gC, zaI (cT 0) 2080 g)]) (pl := []) (va_runV (As := []) (rest := []) ⟨hx, hb, hml, hown, hts⟩ (c_Md_finish_drop l dC dI cT H.size h0 mS mQ gK gV gH mL mo gM mch mA mP gI gR gT gF gS gE gC mB (nI (lv - j)) mz r1 r2 mt mf mst me (by first | omega | assumption) (by first | omega | assumption) (by first | omega | assumption) (by first | omega | assumption) (by first | omega | assumption) (by first | omega | assumption) (by first | omega | assumption) (by first | omega | assumption) (by first | omega | assumption) (by first | omega | assumption) (by first | omega | assumption) (by first | omega | assumption) (by first | omega | assumption) (by first | omega | assumption) (by first | omega | assumption) (by first | omega | assumption) (by first | omega | assumption) (by first | omega | assumption) (by first | omega | assumption)) (cwV 0 hts (zgV wd_696 wd_698 wp_15 wd_11 wd_699) rfl rfl rfl (by decide +kernel) ⟨Nat.le_of_ble_eq_true rfl, Nat.le_of_ble_eq_true rfl⟩) ⟨zPre_blind, va_recv hK hP (ci := 6) (q0 := 0) rfl rfl, zp_Q (X := [(h0, zoMd mS mQ gK gV gH mL mo gM mch mA mP gI gR gT gF gS gE gC mB (nI (lv - j)) mz), (gK, zaI (cT 0) 1100 mk), (gT, zaZ (cT 2) 260 mt), (gF, zaZ (cT 2) 260 mf), (gS, zaN (cT 0) 260 mst), (gE, zaN (cT 0) 260 me), (gC, zaI (cT 0) 2080 g)]) (pl := []) hK hE hP hD [0, 2, 3, 4, 5] (by decide) rfl⟩ rfl rfl hl.1 rfl (lv_room (Nat.le_of_ble_eq_true rfl)) d_Md_step_124 ⟨Nat.le_of_ble_eq_true rfl, Nat.le_of_ble_eq_true rfl⟩) hP hD hS hA [0, 2, 3, 4, 5] [1, 6] rfl (wr := [(gK, zaI (cT 0) 1100 mk), (gC, zaI (cT 0) 2080 g)]) rfl (by decide) (by decide) (fun zu => []) (fun _ => rfl) (fun zu H locs hφ hP hD hS => ?_)
        have hP : va_P (dC, dI) vwCl ([(gK, zaI (cT 0) 1100 mk), (gC, zaI (cT 0) 2080 g), (h0, zoMd mS mQ gK gV gH mL mo gM mch mA (max mP (min mA (mst r2 / mS))) gI gR gT gF gS gE gC (mB + 1) (-2) mz), (gT, zaZ (cT 2) 260 (zdr (va_up mt (mB + 1) true) r2)), (gF, zaZ (cT 2) 260 mf), (gS, zaN (cT 0) 260 mst), (gE, zaN (cT 0) 260 (va_up me (mB + 1) mL))]) H := hP
        have hD : va_D A ([(gK, zaI (cT 0) 1100 mk), (gC, zaI (cT 0) 2080 g), (h0, zoMd mS mQ gK gV gH mL mo gM mch mA (max mP (min mA (mst r2 / mS))) gI gR gT gF gS gE gC (mB + 1) (-2) mz), (gT, zaZ (cT 2) 260 (zdr (va_up mt (mB + 1) true) r2)), (gF, zaZ (cT 2) 260 mf), (gS, zaN (cT 0) 260 mst), (gE, zaN (cT 0) 260 (va_up me (mB + 1) mL))]) := hD
        refine lv_iconst (v := (nI 0)) hx hb d_Md_step_127 (by decide) ?_
        have hP9 := hP.sub (ws' := [(h0, zoMd mS mQ gK gV gH mL mo gM mch mA (max mP (min mA (mst r2 / mS))) gI gR gT gF gS gE gC (mB + 1) (-2) mz), (gK, zaI (cT 0) 1100 mk), (gT, zaZ (cT 2) 260 (zdr (va_up mt (mB + 1) true) r2)), (gF, zaZ (cT 2) 260 mf), (gS, zaN (cT 0) 260 mst), (gE, zaN (cT 0) 260 (va_up me (mB + 1) mL)), (gC, zaI (cT 0) 2080 g)]) [2, 0, 3, 4, 5, 6, 1] rfl
        have hD9 := hD.sub (ws' := [(h0, zoMd mS mQ gK gV gH mL mo gM mch mA (max mP (min mA (mst r2 / mS))) gI gR gT gF gS gE gC (mB + 1) (-2) mz), (gK, zaI (cT 0) 1100 mk), (gT, zaZ (cT 2) 260 (zdr (va_up mt (mB + 1) true) r2)), (gF, zaZ (cT 2) 260 mf), (gS, zaN (cT 0) 260 mst), (gE, zaN (cT 0) 260 (va_up me (mB + 1) mL)), (gC, zaI (cT 0) 2080 g)]) [2, 0, 3, 4, 5, 6, 1] (by decide) rfl
        rw [hg, show j = lv by omega] at hP9 hD9
        exact W.iret hx hb hr (fun t ht hW => ⟨⟨(), trivial, rfl, by rw [ht]; exact hP9, hD9⟩, hS.F ht⟩) hS.2.2 d_Md_step_128
      · refine lv_aload_n hx hb d_Md_step_34 rfl (lv_at hl 0 rfl) ?_
        refine va_get (D := (dC, dI)) (ci := 6) (v := .int (nI (lv - j))) (C := R_Md) (T := F_Md) (N := 21) hx hb hts i_Md hown hK hP 0 rfl rfl 19 (by decide) (hts _ wd_582) (fun _ h9 => h9) rfl d_Md_step_35 ?_
        refine zn_if_le (tgt := 111) hx hb (a := lv - j) (by omega) d_Md_step_38 (by decide) (fun c_38 => ?_) (fun c_38 => ?_)
        · refine lv_aload_n hx hb d_Md_step_111 rfl (lv_at hl 0 rfl) ?_
          refine va_get (D := (dC, dI)) (ci := 6) (v := .int (nI (lv - j))) (C := R_Md) (T := F_Md) (N := 21) hx hb hts i_Md hown hK hP 0 rfl rfl 19 (by decide) (hts _ wd_582) (fun _ h9 => h9) rfl d_Md_step_112 ?_
          refine zn_if_le (tgt := 123) hx hb (a := lv - j) (by omega) d_Md_step_115 (by decide) (fun c_115 => ?_) (fun c_115 => absurd c_115 (by omega))
          refine lv_aload_n hx hb d_Md_step_123 rfl (lv_at hl 0 rfl) ?_
          refine zw_Q (X := [(h0, zoMd mS mQ gK gV gH mL mo gM mch mA mP gI gR gT gF gS gE gC mB (nI (lv - j)) mz), (gK, zaI (cT 0) 1100 mk), (gT, zaZ (cT 2) 260 mt), (gF, zaZ (cT 2) 260 mf), (gS, zaN (cT 0) 260 mst), (gE, zaN (cT 0) 260 me), (gC, zaI (cT 0) 2080 g)]) (pl := []) (va_runV (As := []) (rest := []) ⟨hx, hb, hml, hown, hts⟩ (c_Md_finish_drop l dC dI cT H.size h0 mS mQ gK gV gH mL mo gM mch mA mP gI gR gT gF gS gE gC mB (nI (lv - j)) mz r1 r2 mt mf mst me (by first | omega | assumption) (by first | omega | assumption) (by first | omega | assumption) (by first | omega | assumption) (by first | omega | assumption) (by first | omega | assumption) (by first | omega | assumption) (by first | omega | assumption) (by first | omega | assumption) (by first | omega | assumption) (by first | omega | assumption) (by first | omega | assumption) (by first | omega | assumption) (by first | omega | assumption) (by first | omega | assumption) (by first | omega | assumption) (by first | omega | assumption) (by first | omega | assumption) (by first | omega | assumption)) (cwV 0 hts (zgV wd_696 wd_698 wp_15 wd_11 wd_699) rfl rfl rfl (by decide +kernel) ⟨Nat.le_of_ble_eq_true rfl, Nat.le_of_ble_eq_true rfl⟩) ⟨zPre_blind, va_recv hK hP (ci := 6) (q0 := 0) rfl rfl, zp_Q (X := [(h0, zoMd mS mQ gK gV gH mL mo gM mch mA mP gI gR gT gF gS gE gC mB (nI (lv - j)) mz), (gK, zaI (cT 0) 1100 mk), (gT, zaZ (cT 2) 260 mt), (gF, zaZ (cT 2) 260 mf), (gS, zaN (cT 0) 260 mst), (gE, zaN (cT 0) 260 me), (gC, zaI (cT 0) 2080 g)]) (pl := []) hK hE hP hD [0, 2, 3, 4, 5] (by decide) rfl⟩ rfl rfl hl.1 rfl (lv_room (Nat.le_of_ble_eq_true rfl)) d_Md_step_124 ⟨Nat.le_of_ble_eq_true rfl, Nat.le_of_ble_eq_true rfl⟩) hP hD hS hA [0, 2, 3, 4, 5] [1, 6] rfl (wr := [(gK, zaI (cT 0) 1100 mk), (gC, zaI (cT 0) 2080 g)]) rfl (by decide) (by decide) (fun zu => []) (fun _ => rfl) (fun zu H locs hφ hP hD hS => ?_)
          have hP : va_P (dC, dI) vwCl ([(gK, zaI (cT 0) 1100 mk), (gC, zaI (cT 0) 2080 g), (h0, zoMd mS mQ gK gV gH mL mo gM mch mA (max mP (min mA (mst r2 / mS))) gI gR gT gF gS gE gC (mB + 1) (-2) mz), (gT, zaZ (cT 2) 260 (zdr (va_up mt (mB + 1) true) r2)), (gF, zaZ (cT 2) 260 mf), (gS, zaN (cT 0) 260 mst), (gE, zaN (cT 0) 260 (va_up me (mB + 1) mL))]) H := hP
          have hD : va_D A ([(gK, zaI (cT 0) 1100 mk), (gC, zaI (cT 0) 2080 g), (h0, zoMd mS mQ gK gV gH mL mo gM mch mA (max mP (min mA (mst r2 / mS))) gI gR gT gF gS gE gC (mB + 1) (-2) mz), (gT, zaZ (cT 2) 260 (zdr (va_up mt (mB + 1) true) r2)), (gF, zaZ (cT 2) 260 mf), (gS, zaN (cT 0) 260 mst), (gE, zaN (cT 0) 260 (va_up me (mB + 1) mL))]) := hD
          refine lv_iconst (v := (nI 0)) hx hb d_Md_step_127 (by decide) ?_
          have hP9 := hP.sub (ws' := [(h0, zoMd mS mQ gK gV gH mL mo gM mch mA (max mP (min mA (mst r2 / mS))) gI gR gT gF gS gE gC (mB + 1) (-2) mz), (gK, zaI (cT 0) 1100 mk), (gT, zaZ (cT 2) 260 (zdr (va_up mt (mB + 1) true) r2)), (gF, zaZ (cT 2) 260 mf), (gS, zaN (cT 0) 260 mst), (gE, zaN (cT 0) 260 (va_up me (mB + 1) mL)), (gC, zaI (cT 0) 2080 g)]) [2, 0, 3, 4, 5, 6, 1] rfl
          have hD9 := hD.sub (ws' := [(h0, zoMd mS mQ gK gV gH mL mo gM mch mA (max mP (min mA (mst r2 / mS))) gI gR gT gF gS gE gC (mB + 1) (-2) mz), (gK, zaI (cT 0) 1100 mk), (gT, zaZ (cT 2) 260 (zdr (va_up mt (mB + 1) true) r2)), (gF, zaZ (cT 2) 260 mf), (gS, zaN (cT 0) 260 mst), (gE, zaN (cT 0) 260 (va_up me (mB + 1) mL)), (gC, zaI (cT 0) 2080 g)]) [2, 0, 3, 4, 5, 6, 1] (by decide) rfl
          rw [hg, show j = lv by omega] at hP9 hD9
          exact W.iret hx hb hr (fun t ht hW => ⟨⟨(), trivial, rfl, by rw [ht]; exact hP9, hD9⟩, hS.F ht⟩) hS.2.2 d_Md_step_128
        · refine lv_bipush (v := (nI 8)) hx hb d_Md_step_41 (by decide) ?_
          refine lv_aload_n hx hb d_Md_step_43 rfl (lv_at hl 0 rfl) ?_
          refine va_get (D := (dC, dI)) (ci := 6) (v := .int (nI (lv - j))) (C := R_Md) (T := F_Md) (N := 21) hx hb hts i_Md hown hK hP 0 rfl rfl 19 (by decide) (hts _ wd_582) (fun _ h9 => h9) rfl d_Md_step_44 ?_
          refine zn_isub hx hb (by omega) d_Md_step_47 ?_
          refine lv_istore (lv' := [(4, .int (nI (8 - (lv - j)))), (0, .ref h0), (1, .int (nI n)), (2, .int (nI (mB + 1))), (3, .int (nI j))]) hx hb d_Md_step_48 hl (by decide) rfl (fun ls hl => ?_)
          have hl : lv_has ls 6 [(4, .int (nI (8 - lv + j))), (0, .ref h0), (1, .int (nI n)), (2, .int (nI (mB + 1))), (3, .int (nI j))] := by rw [← (congrArg nI (show 8 - (lv - j) = 8 - lv + j by omega))]; exact hl
          refine lv_aload_n hx hb d_Md_step_50 rfl (lv_at hl 1 rfl) ?_
          refine lv_iload hx hb d_Md_step_51 (lv_at hl 0 rfl) ?_
          refine zw_R (r := .int (nI (znum mk (8 - lv + j) mL))) (va_runV (As := [.int (nI (8 - lv + j))]) (rest := []) ⟨hx, hb, hml, hown, hts⟩ (c_Md_numberOf l dC dI cT h0 mS mQ gK gV gH mL mo gM mch mA mP gI gR gT gF gS gE gC mB (nI (lv - j)) mz (8 - lv + j) mk (by first | omega | assumption) (by first | omega | assumption) (by first | omega | assumption)) (cwV 1 hts (zgV wd_676 wd_678 wp_13 wd_11 wd_679) rfl rfl rfl (by decide +kernel) ⟨Nat.le_of_ble_eq_true rfl, Nat.le_of_ble_eq_true rfl⟩) ⟨zPreR_blind, va_recv hK hP (ci := 6) (q0 := 0) rfl rfl, zp_R hK hE (zSub (X := [(h0, zoMd mS mQ gK gV gH mL mo gM mch mA mP gI gR gT gF gS gE gC mB (nI (lv - j)) mz), (gK, zaI (cT 0) 1100 mk), (gT, zaZ (cT 2) 260 mt), (gF, zaZ (cT 2) 260 mf), (gS, zaN (cT 0) 260 mst), (gE, zaN (cT 0) 260 me), (gC, zaI (cT 0) 2080 g)]) (pl := []) hP [0, 1] rfl)⟩ rfl rfl hl.1 rfl (lv_room (Nat.le_of_ble_eq_true rfl)) d_Md_step_53 ⟨Nat.le_of_ble_eq_true rfl, Nat.le_of_ble_eq_true rfl⟩) ?_
          refine lv_istore (lv' := [(5, .int (nI (znum mk (8 - lv + j) mL))), (4, .int (nI (8 - lv + j))), (0, .ref h0), (1, .int (nI n)), (2, .int (nI (mB + 1))), (3, .int (nI j))]) hx hb d_Md_step_56 hl (by decide) rfl (fun ls hl => ?_)
          have hnu := znum_le mk (8 - lv + j) mL
          refine lv_aload_n hx hb d_Md_step_58 rfl (lv_at hl 2 rfl) ?_
          refine va_get (D := (dC, dI)) (ci := 6) (v := .ref gF) (C := R_Md) (T := F_Md) (N := 21) hx hb hts i_Md hown hK hP 0 rfl rfl 14 (by decide) (hts _ wd_577) (fun _ h9 => h9) rfl d_Md_step_59 ?_
          refine lv_iload_n hx hb d_Md_step_62 rfl (lv_at hl 4 rfl) ?_
          refine zn_zald hx hb hK hP 3 2 rfl rfl (i := mB + 1) (by omega) (by omega) d_Md_step_63 ?_
          refine zb_if_ne (tgt := 81) hx hb d_Md_step_64 (by decide) (fun c_64 => ?_) (fun c_64 => ?_)
          · refine lv_aload_n hx hb d_Md_step_81 rfl (lv_at hl 2 rfl) ?_
            refine va_get (D := (dC, dI)) (ci := 6) (v := .ref gC) (C := R_Md) (T := F_Md) (N := 21) hx hb hts i_Md hown hK hP 0 rfl rfl 17 (by decide) (hts _ wd_580) (fun _ h9 => h9) rfl d_Md_step_82 ?_
            refine lv_iload_n hx hb d_Md_step_85 rfl (lv_at hl 4 rfl) ?_
            refine lv_bipush (v := (nI 8)) hx hb d_Md_step_86 (by decide) ?_
            refine zn_imul hx hb d_Md_step_88 ?_
            refine lv_iload hx hb d_Md_step_89 (lv_at hl 1 rfl) ?_
            refine zn_iadd hx hb d_Md_step_91 ?_
            refine lv_iload hx hb d_Md_step_92 (lv_at hl 0 rfl) ?_
            refine zn_iast hx hb hK hP hD hS 6 0 rfl rfl (i := ((mB + 1) * 8) + (8 - lv + j)) (x := (nI (znum mk (8 - lv + j) mL))) (by omega) (by omega) d_Md_step_94 (fun H locs hP hD hS => ?_)
            have hP : va_P (dC, dI) vwCl ([(h0, zoMd mS mQ gK gV gH mL mo gM mch mA mP gI gR gT gF gS gE gC mB (nI (lv - j)) mz), (gK, zaI (cT 0) 1100 mk), (gT, zaZ (cT 2) 260 mt), (gF, zaZ (cT 2) 260 mf), (gS, zaN (cT 0) 260 mst), (gE, zaN (cT 0) 260 me), (gC, zaI (cT 0) 2080 (va_up g (((mB + 1) * 8) + (8 - lv + j)) (nI (znum mk (8 - lv + j) mL))))]) H := hP
            have hD : va_D A ([(h0, zoMd mS mQ gK gV gH mL mo gM mch mA mP gI gR gT gF gS gE gC mB (nI (lv - j)) mz), (gK, zaI (cT 0) 1100 mk), (gT, zaZ (cT 2) 260 mt), (gF, zaZ (cT 2) 260 mf), (gS, zaN (cT 0) 260 mst), (gE, zaN (cT 0) 260 me), (gC, zaI (cT 0) 2080 (va_up g (((mB + 1) * 8) + (8 - lv + j)) (nI (znum mk (8 - lv + j) mL))))]) := hD
            refine lv_aload_n hx hb d_Md_step_95 rfl (lv_at hl 2 rfl) ?_
            refine lv_dup hx hb d_Md_step_96 rfl ?_
            refine va_get (D := (dC, dI)) (ci := 6) (v := .int (nI (lv - j))) (C := R_Md) (T := F_Md) (N := 21) hx hb hts i_Md hown hK hP 0 rfl rfl 19 (by decide) (hts _ wd_582) (fun _ h9 => h9) rfl d_Md_step_97 ?_
            refine lv_iconst (v := (nI 1)) hx hb d_Md_step_100 (by decide) ?_
            refine zn_isub hx hb (by omega) d_Md_step_101 ?_
            refine va_put (D := (dC, dI)) (ci := 6) (v := .int (nI ((lv - j) - 1))) (ty := .int) (C := R_Md) (T := F_Md) (N := 21) hx hb hts i_Md t_Md t_Md_ok n_Md hown hK hP hD hS 0 rfl rfl 19 (by decide) (hts _ wd_582) (fun _ h9 => h9) rfl (by decide +kernel) rfl rfl (Nat.le_of_ble_eq_true rfl) d_Md_step_102 (fun H locs hP hD hS => ?_)
            have hP : va_P (dC, dI) vwCl ([(h0, zoMd mS mQ gK gV gH mL mo gM mch mA mP gI gR gT gF gS gE gC mB (nI ((lv - j) - 1)) mz), (gK, zaI (cT 0) 1100 mk), (gT, zaZ (cT 2) 260 mt), (gF, zaZ (cT 2) 260 mf), (gS, zaN (cT 0) 260 mst), (gE, zaN (cT 0) 260 me), (gC, zaI (cT 0) 2080 (va_up g (((mB + 1) * 8) + (8 - lv + j)) (nI (znum mk (8 - lv + j) mL))))]) H := hP
            have hD : va_D A ([(h0, zoMd mS mQ gK gV gH mL mo gM mch mA mP gI gR gT gF gS gE gC mB (nI ((lv - j) - 1)) mz), (gK, zaI (cT 0) 1100 mk), (gT, zaZ (cT 2) 260 mt), (gF, zaZ (cT 2) 260 mf), (gS, zaN (cT 0) 260 mst), (gE, zaN (cT 0) 260 me), (gC, zaI (cT 0) 2080 (va_up g (((mB + 1) * 8) + (8 - lv + j)) (nI (znum mk (8 - lv + j) mL))))]) := hD
            refine lv_iinc (v := (nI (j + 1))) (lv' := [(3, .int (nI (j + 1))), (5, .int (nI (znum mk (8 - lv + j) mL))), (4, .int (nI (8 - lv + j))), (0, .ref h0), (1, .int (nI n)), (2, .int (nI (mB + 1)))]) hx hb d_Md_step_105 hl (k := 5) rfl (nI_1 _) (by decide) rfl (fun ls hl => ?_)
            refine lv_goto (tgt := 29) hx hb d_Md_step_108 (by decide) ?_
            exact ih_29 (j + 1) (va_up g (((mB + 1) * 8) + (8 - lv + j)) (nI (znum mk (8 - lv + j) mL))) (by omega) (by first | omega | assumption) (by first | omega | assumption) (by rw [zvis, if_pos (Or.inl c_64), hg]) H locs (hP.sub [0, 1, 2, 3, 4, 5, 6] rfl) (hD.sub [0, 1, 2, 3, 4, 5, 6] (by decide) rfl) hS ls (lv_sub hl [3, 4, 5, 0] rfl)
          · refine lv_iload hx hb d_Md_step_67 (lv_at hl 0 rfl) ?_
            refine lv_aload_n hx hb d_Md_step_69 rfl (lv_at hl 2 rfl) ?_
            refine va_get (D := (dC, dI)) (ci := 6) (v := .ref gS) (C := R_Md) (T := F_Md) (N := 21) hx hb hts i_Md hown hK hP 0 rfl rfl 15 (by decide) (hts _ wd_578) (fun _ h9 => h9) rfl d_Md_step_70 ?_
            refine lv_aload_n hx hb d_Md_step_73 rfl (lv_at hl 2 rfl) ?_
            refine va_get (D := (dC, dI)) (ci := 6) (v := .int (nI mB)) (C := R_Md) (T := F_Md) (N := 21) hx hb hts i_Md hown hK hP 0 rfl rfl 18 (by decide) (hts _ wd_581) (fun _ h9 => h9) rfl d_Md_step_74 ?_
            refine zn_iald hx hb hK hP 4 0 rfl rfl (i := mB) (by omega) (by omega) d_Md_step_77 ?_
            refine zn_icmp_le (tgt := 95) hx hb (a := znum mk (8 - lv + j) mL) (b := mst mB) (by omega) (by omega) d_Md_step_78 (by decide) (fun c_78 => ?_) (fun c_78 => ?_)
            · refine lv_aload_n hx hb d_Md_step_95 rfl (lv_at hl 2 rfl) ?_
              refine lv_dup hx hb d_Md_step_96 rfl ?_
              refine va_get (D := (dC, dI)) (ci := 6) (v := .int (nI (lv - j))) (C := R_Md) (T := F_Md) (N := 21) hx hb hts i_Md hown hK hP 0 rfl rfl 19 (by decide) (hts _ wd_582) (fun _ h9 => h9) rfl d_Md_step_97 ?_
              refine lv_iconst (v := (nI 1)) hx hb d_Md_step_100 (by decide) ?_
              refine zn_isub hx hb (by omega) d_Md_step_101 ?_
              refine va_put (D := (dC, dI)) (ci := 6) (v := .int (nI ((lv - j) - 1))) (ty := .int) (C := R_Md) (T := F_Md) (N := 21) hx hb hts i_Md t_Md t_Md_ok n_Md hown hK hP hD hS 0 rfl rfl 19 (by decide) (hts _ wd_582) (fun _ h9 => h9) rfl (by decide +kernel) rfl rfl (Nat.le_of_ble_eq_true rfl) d_Md_step_102 (fun H locs hP hD hS => ?_)
              have hP : va_P (dC, dI) vwCl ([(h0, zoMd mS mQ gK gV gH mL mo gM mch mA mP gI gR gT gF gS gE gC mB (nI ((lv - j) - 1)) mz), (gK, zaI (cT 0) 1100 mk), (gT, zaZ (cT 2) 260 mt), (gF, zaZ (cT 2) 260 mf), (gS, zaN (cT 0) 260 mst), (gE, zaN (cT 0) 260 me), (gC, zaI (cT 0) 2080 g)]) H := hP
              have hD : va_D A ([(h0, zoMd mS mQ gK gV gH mL mo gM mch mA mP gI gR gT gF gS gE gC mB (nI ((lv - j) - 1)) mz), (gK, zaI (cT 0) 1100 mk), (gT, zaZ (cT 2) 260 mt), (gF, zaZ (cT 2) 260 mf), (gS, zaN (cT 0) 260 mst), (gE, zaN (cT 0) 260 me), (gC, zaI (cT 0) 2080 g)]) := hD
              refine lv_iinc (v := (nI (j + 1))) (lv' := [(3, .int (nI (j + 1))), (5, .int (nI (znum mk (8 - lv + j) mL))), (4, .int (nI (8 - lv + j))), (0, .ref h0), (1, .int (nI n)), (2, .int (nI (mB + 1)))]) hx hb d_Md_step_105 hl (k := 5) rfl (nI_1 _) (by decide) rfl (fun ls hl => ?_)
              refine lv_goto (tgt := 29) hx hb d_Md_step_108 (by decide) ?_
              exact ih_29 (j + 1) g (by omega) (by first | omega | assumption) (by first | omega | assumption) (by rw [zvis, if_neg (fun q => q.elim (fun q1 => by rw [c_64] at q1; exact absurd q1 (by decide)) (fun q2 => absurd q2 (Nat.not_lt.mpr c_78))), hg]) H locs (hP.sub [0, 1, 2, 3, 4, 5, 6] rfl) (hD.sub [0, 1, 2, 3, 4, 5, 6] (by decide) rfl) hS ls (lv_sub hl [3, 4, 5, 0] rfl)
            · refine lv_aload_n hx hb d_Md_step_81 rfl (lv_at hl 2 rfl) ?_
              refine va_get (D := (dC, dI)) (ci := 6) (v := .ref gC) (C := R_Md) (T := F_Md) (N := 21) hx hb hts i_Md hown hK hP 0 rfl rfl 17 (by decide) (hts _ wd_580) (fun _ h9 => h9) rfl d_Md_step_82 ?_
              refine lv_iload_n hx hb d_Md_step_85 rfl (lv_at hl 4 rfl) ?_
              refine lv_bipush (v := (nI 8)) hx hb d_Md_step_86 (by decide) ?_
              refine zn_imul hx hb d_Md_step_88 ?_
              refine lv_iload hx hb d_Md_step_89 (lv_at hl 1 rfl) ?_
              refine zn_iadd hx hb d_Md_step_91 ?_
              refine lv_iload hx hb d_Md_step_92 (lv_at hl 0 rfl) ?_
              refine zn_iast hx hb hK hP hD hS 6 0 rfl rfl (i := ((mB + 1) * 8) + (8 - lv + j)) (x := (nI (znum mk (8 - lv + j) mL))) (by omega) (by omega) d_Md_step_94 (fun H locs hP hD hS => ?_)
              have hP : va_P (dC, dI) vwCl ([(h0, zoMd mS mQ gK gV gH mL mo gM mch mA mP gI gR gT gF gS gE gC mB (nI (lv - j)) mz), (gK, zaI (cT 0) 1100 mk), (gT, zaZ (cT 2) 260 mt), (gF, zaZ (cT 2) 260 mf), (gS, zaN (cT 0) 260 mst), (gE, zaN (cT 0) 260 me), (gC, zaI (cT 0) 2080 (va_up g (((mB + 1) * 8) + (8 - lv + j)) (nI (znum mk (8 - lv + j) mL))))]) H := hP
              have hD : va_D A ([(h0, zoMd mS mQ gK gV gH mL mo gM mch mA mP gI gR gT gF gS gE gC mB (nI (lv - j)) mz), (gK, zaI (cT 0) 1100 mk), (gT, zaZ (cT 2) 260 mt), (gF, zaZ (cT 2) 260 mf), (gS, zaN (cT 0) 260 mst), (gE, zaN (cT 0) 260 me), (gC, zaI (cT 0) 2080 (va_up g (((mB + 1) * 8) + (8 - lv + j)) (nI (znum mk (8 - lv + j) mL))))]) := hD
              refine lv_aload_n hx hb d_Md_step_95 rfl (lv_at hl 2 rfl) ?_
              refine lv_dup hx hb d_Md_step_96 rfl ?_
              refine va_get (D := (dC, dI)) (ci := 6) (v := .int (nI (lv - j))) (C := R_Md) (T := F_Md) (N := 21) hx hb hts i_Md hown hK hP 0 rfl rfl 19 (by decide) (hts _ wd_582) (fun _ h9 => h9) rfl d_Md_step_97 ?_
              refine lv_iconst (v := (nI 1)) hx hb d_Md_step_100 (by decide) ?_
              refine zn_isub hx hb (by omega) d_Md_step_101 ?_
              refine va_put (D := (dC, dI)) (ci := 6) (v := .int (nI ((lv - j) - 1))) (ty := .int) (C := R_Md) (T := F_Md) (N := 21) hx hb hts i_Md t_Md t_Md_ok n_Md hown hK hP hD hS 0 rfl rfl 19 (by decide) (hts _ wd_582) (fun _ h9 => h9) rfl (by decide +kernel) rfl rfl (Nat.le_of_ble_eq_true rfl) d_Md_step_102 (fun H locs hP hD hS => ?_)
              have hP : va_P (dC, dI) vwCl ([(h0, zoMd mS mQ gK gV gH mL mo gM mch mA mP gI gR gT gF gS gE gC mB (nI ((lv - j) - 1)) mz), (gK, zaI (cT 0) 1100 mk), (gT, zaZ (cT 2) 260 mt), (gF, zaZ (cT 2) 260 mf), (gS, zaN (cT 0) 260 mst), (gE, zaN (cT 0) 260 me), (gC, zaI (cT 0) 2080 (va_up g (((mB + 1) * 8) + (8 - lv + j)) (nI (znum mk (8 - lv + j) mL))))]) H := hP
              have hD : va_D A ([(h0, zoMd mS mQ gK gV gH mL mo gM mch mA mP gI gR gT gF gS gE gC mB (nI ((lv - j) - 1)) mz), (gK, zaI (cT 0) 1100 mk), (gT, zaZ (cT 2) 260 mt), (gF, zaZ (cT 2) 260 mf), (gS, zaN (cT 0) 260 mst), (gE, zaN (cT 0) 260 me), (gC, zaI (cT 0) 2080 (va_up g (((mB + 1) * 8) + (8 - lv + j)) (nI (znum mk (8 - lv + j) mL))))]) := hD
              refine lv_iinc (v := (nI (j + 1))) (lv' := [(3, .int (nI (j + 1))), (5, .int (nI (znum mk (8 - lv + j) mL))), (4, .int (nI (8 - lv + j))), (0, .ref h0), (1, .int (nI n)), (2, .int (nI (mB + 1)))]) hx hb d_Md_step_105 hl (k := 5) rfl (nI_1 _) (by decide) rfl (fun ls hl => ?_)
              refine lv_goto (tgt := 29) hx hb d_Md_step_108 (by decide) ?_
              exact ih_29 (j + 1) (va_up g (((mB + 1) * 8) + (8 - lv + j)) (nI (znum mk (8 - lv + j) mL))) (by omega) (by first | omega | assumption) (by first | omega | assumption) (by rw [zvis, if_pos (Or.inr c_78), hg]) H locs (hP.sub [0, 1, 2, 3, 4, 5, 6] rfl) (hD.sub [0, 1, 2, 3, 4, 5, 6] (by decide) rfl) hS ls (lv_sub hl [3, 4, 5, 0] rfl)
  exact loop_29 (n - 0 + 1) 0 cp (by omega) (by first | omega | assumption) (by first | omega | assumption) rfl s.heap [] (hP.sub [0, 1, 2, 3, 4, 5, 6] rfl) (hD.sub [0, 1, 2, 3, 4, 5, 6] (by decide) rfl) hS ls (lv_sub hl [2, 3, 1, 0] rfl)
set_option maxHeartbeats 4000000 in
set_option maxRecDepth 100000 in
theorem c_Md_recover (l : Launch) (dC : Nat → ClassId) (dI : Nat → Nat → Nat) (cT : Nat → ClassId) (sz : Nat) (h0 : Nat) (mS : Nat) (mQ : Nat) (gK : Nat) (gV : Nat) (gH : Nat) (mL : Nat) (mo : Bool) (gM : Nat) (mch : Nat) (mA : Nat) (mP : Nat) (gI : Nat) (gR : Nat) (gT : Nat) (gF : Nat) (gS : Nat) (gE : Nat) (gC : Nat) (mB : Nat) (ml : Int32) (mz : Int32) (mk : Nat → Int32) (mv : Nat → Int32) (mh : Nat → Bool) (mm : Nat → Nat) (mi : Nat → Nat) (mr : Nat → Bool) (mt : Nat → Bool) (cp : Nat → Int32) (hL : mL ≤ 1000) (hkey : ∀ i, 1 ≤ i → i ≤ mL → ¬ mk i < 0 → isIn (mk i) 32 = true) (hB : mB ≤ 256) (hcp : ∀ j, okc (cp j)) (hch : mch ≤ 4) (hLu : mL + mch + 1 ≤ 1000) (hmm : ∀ j, j < mch → 1 ≤ mm j ∧ mm j ≤ mL) (hmi : ∀ p, p < 8 → mi p ≤ 1000) (hbs : ∀ p, p < 8 → zbst mt cp p (if mr p = true then mi p else 0) mB ≤ mL) (hcl : mo = false → mch = 0) : Met l y_Md_recover w_Md_recover ({ frames := 2, cells := 0, slots := 0, locals := 47 } : Room) (zPre (dC, dI) vwCl (zT cT) [.ref h0] ([(h0, zoMd mS mQ gK gV gH mL mo gM mch mA mP gI gR gT gF gS gE gC mB ml mz), (gK, zaI (cT 0) 1100 mk), (gV, zaI (cT 0) 1100 mv), (gH, zaZ (cT 2) 1100 mh), (gM, zaN (cT 0) 4 mm), (gI, zaN (cT 0) 8 mi), (gR, zaZ (cT 2) 8 mr), (gT, zaZ (cT 2) 260 mt), (gC, zaI (cT 0) 2080 cp)]) sz) (zQ (dC, dI) vwCl (S := Unit) (fun zu => True) (fun zu => some (.int (nI (zsum mk (fun p => zbst mt cp p (if mr p = true then mi p else 0) mB) mL 8)))) (fun zu => [(h0, zoMd mS mQ gK gV gH (zuL mL mch) false gM 0 mA mP gI gR gT gF gS gE gC mB (-2) mz), (gK, zaI (cT 0) 1100 (zvK mk mv mh mm mL mch)), (gV, zaI (cT 0) 1100 (zvV mk mv mh mm mL mch)), (gH, zaZ (cT 2) 1100 (zvH mk mv mh mm mL mch)), (gM, zaN (cT 0) 4 mm), (gI, zaN (cT 0) 8 mi), (gR, zaZ (cT 2) 8 mr), (gT, zaZ (cT 2) 260 mt), (gC, zaI (cT 0) 2080 cp)]) (va_A ([(h0, zoMd mS mQ gK gV gH mL mo gM mch mA mP gI gR gT gF gS gE gC mB ml mz), (gK, zaI (cT 0) 1100 mk), (gV, zaI (cT 0) 1100 mv), (gH, zaZ (cT 2) 1100 mh), (gM, zaN (cT 0) 4 mm), (gI, zaN (cT 0) 8 mi), (gR, zaZ (cT 2) 8 mr), (gT, zaZ (cT 2) 260 mt), (gC, zaI (cT 0) 2080 cp)]) sz)) 0 0 (va_A ([(h0, zoMd mS mQ gK gV gH mL mo gM mch mA mP gI gR gT gF gS gE gC mB ml mz), (gK, zaI (cT 0) 1100 mk), (gV, zaI (cT 0) 1100 mv), (gH, zaZ (cT 2) 1100 mh), (gM, zaN (cT 0) 4 mm), (gI, zaN (cT 0) 8 mi), (gR, zaZ (cT 2) 8 mr), (gT, zaZ (cT 2) 260 mt), (gC, zaI (cT 0) 2080 cp)]) sz) := by
  refine Met.ofW (cc := b_Md_recover) (maxL := 3) (ret := (some .int)) (by decide) rfl ?_
  intro p e s m args below meth c s₁ B hml hv
  obtain ⟨rfl, hsz, hP, hK, hD0, hE⟩ := hv
  have hx := B.exec
  have hb := B.bytes
  have hr := B.returns
  have hts := fun w h => atoms_spec (ws := w_Md_recover) B.pre w (List.mem_cons_of_mem _ h)
  have hown : s.vm.findClass R_Md = some m.cls := findClass_of_methodNamed B.named
  have hlocks := B.notSynchronized
  subst hsz
  have hD := hD0.self (sz := s.heap.size)
  generalize hAe : va_A ([(h0, zoMd mS mQ gK gV gH mL mo gM mch mA mP gI gR gT gF gS gE gC mB ml mz), (gK, zaI (cT 0) 1100 mk), (gV, zaI (cT 0) 1100 mv), (gH, zaZ (cT 2) 1100 mh), (gM, zaN (cT 0) 4 mm), (gI, zaN (cT 0) 8 mi), (gR, zaZ (cT 2) 8 mr), (gT, zaZ (cT 2) 260 mt), (gC, zaI (cT 0) 2080 cp)]) s.heap.size = A at hD ⊢
  have hA : ∀ q : Nat, s.heap.size ≤ q → A q := fun q h => by rw [← hAe]; exact Or.inr h
  have hS : va_S A s.heap s.heap [] := va_S.rf
  have hl := lv_entry ([.ref h0]) (n := 3) (Nat.le_of_ble_eq_true rfl)
  rw [lg_entry_eq]
  generalize (lg_sl ([.ref h0]) ++ List.replicate (3 - (lg_sl ([.ref h0])).length) Slot.unset).toArray = ls at hl ⊢
  have hl : lv_has ls 3 [(0, .ref h0)] := hl
  refine lv_aload_n hx hb d_Md_recover_0 rfl (lv_at hl 0 rfl) ?_
  refine lv_bipush (v := (-2)) hx hb d_Md_recover_1 (by decide) ?_
  refine va_put (D := (dC, dI)) (ci := 6) (v := .int (-2)) (ty := .int) (C := R_Md) (T := F_Md) (N := 21) hx hb hts i_Md t_Md t_Md_ok n_Md hown hK hP hD hS 0 rfl rfl 19 (by decide) (hts _ wd_582) (fun _ h9 => h9) rfl (by decide +kernel) rfl rfl (Nat.le_of_ble_eq_true rfl) d_Md_recover_3 (fun H locs hP hD hS => ?_)
  have hP : va_P (dC, dI) vwCl ([(h0, zoMd mS mQ gK gV gH mL mo gM mch mA mP gI gR gT gF gS gE gC mB (-2) mz), (gK, zaI (cT 0) 1100 mk), (gV, zaI (cT 0) 1100 mv), (gH, zaZ (cT 2) 1100 mh), (gM, zaN (cT 0) 4 mm), (gI, zaN (cT 0) 8 mi), (gR, zaZ (cT 2) 8 mr), (gT, zaZ (cT 2) 260 mt), (gC, zaI (cT 0) 2080 cp)]) H := hP
  have hD : va_D A ([(h0, zoMd mS mQ gK gV gH mL mo gM mch mA mP gI gR gT gF gS gE gC mB (-2) mz), (gK, zaI (cT 0) 1100 mk), (gV, zaI (cT 0) 1100 mv), (gH, zaZ (cT 2) 1100 mh), (gM, zaN (cT 0) 4 mm), (gI, zaN (cT 0) 8 mi), (gR, zaZ (cT 2) 8 mr), (gT, zaZ (cT 2) 260 mt), (gC, zaI (cT 0) 2080 cp)]) := hD
  refine lv_iconst (v := (nI 0)) hx hb d_Md_recover_6 (by decide) ?_
  refine lv_istore_n (lv' := [(1, .int (nI 0)), (0, .ref h0)]) hx hb d_Md_recover_7 rfl hl (by decide) rfl (fun ls hl => ?_)
  refine lv_iconst (v := (nI 0)) hx hb d_Md_recover_8 (by decide) ?_
  refine lv_istore_n (lv' := [(2, .int (nI 0)), (1, .int (nI 0)), (0, .ref h0)]) hx hb d_Md_recover_9 rfl hl (by decide) rfl (fun ls hl => ?_)
  have loop_10 : ∀ (fu : Nat) (i : Nat) (n : Nat), 8 - i < fu → (i ≤ 8) → (n = zsum mk (fun p => zbst mt cp p (if mr p = true then mi p else 0) mB) mL i) → ∀ (H : Heap) (locs : List Loc), va_P (dC, dI) vwCl ([(h0, zoMd mS mQ gK gV gH mL mo gM mch mA mP gI gR gT gF gS gE gC mB (-2) mz), (gK, zaI (cT 0) 1100 mk), (gV, zaI (cT 0) 1100 mv), (gH, zaZ (cT 2) 1100 mh), (gM, zaN (cT 0) 4 mm), (gI, zaN (cT 0) 8 mi), (gR, zaZ (cT 2) 8 mr), (gT, zaZ (cT 2) 260 mt), (gC, zaI (cT 0) 2080 cp)]) H → va_D A ([(h0, zoMd mS mQ gK gV gH mL mo gM mch mA mP gI gR gT gF gS gE gC mB (-2) mz), (gK, zaI (cT 0) 1100 mk), (gV, zaI (cT 0) 1100 mv), (gH, zaZ (cT 2) 1100 mh), (gM, zaN (cT 0) 4 mm), (gI, zaN (cT 0) 8 mi), (gR, zaZ (cT 2) 8 mr), (gT, zaZ (cT 2) 260 mt), (gC, zaI (cT 0) 2080 cp)]) → va_S A s.heap H locs → ∀ (ls : Array Slot), lv_has ls 3 [(0, .ref h0), (1, .int (nI n)), (2, .int (nI i))] → W p l e (headSpec w_Md_recover ({ frames := 2, cells := 0, slots := 0, locals := 47 } : Room)).room s m ([.ref h0] : List Value).toArray below meth c H locs 0 0 (MQ below (zQ (dC, dI) vwCl (S := Unit) (fun zu => True) (fun zu => some (.int (nI (zsum mk (fun p => zbst mt cp p (if mr p = true then mi p else 0) mB) mL 8)))) (fun zu => [(h0, zoMd mS mQ gK gV gH (zuL mL mch) false gM 0 mA mP gI gR gT gF gS gE gC mB (-2) mz), (gK, zaI (cT 0) 1100 (zvK mk mv mh mm mL mch)), (gV, zaI (cT 0) 1100 (zvV mk mv mh mm mL mch)), (gH, zaZ (cT 2) 1100 (zvH mk mv mh mm mL mch)), (gM, zaN (cT 0) 4 mm), (gI, zaN (cT 0) 8 mi), (gR, zaZ (cT 2) 8 mr), (gT, zaZ (cT 2) 260 mt), (gC, zaI (cT 0) 2080 cp)]) A) ([.ref h0] : List Value).toArray s 0 0 A) (F0 m 10 ls []) := by
    intro fu
    induction fu with
    | zero => intro _ _ hm; exact absurd hm (Nat.not_lt_zero _)
    | succ fu ih_10 =>
      intro i n hm_10 h1 h3 H locs hP hD hS ls hl
      refine lv_iload_n hx hb d_Md_recover_10 rfl (lv_at hl 2 rfl) ?_
      have hz1 := zsum_le mk (fun p => zbst mt cp p (if mr p = true then mi p else 0) mB) mL i
      have hz2 : i * mL ≤ 8 * mL := Nat.mul_le_mul_right _ h1
      refine lv_bipush (v := (nI 8)) hx hb d_Md_recover_11 (by decide) ?_
      refine zn_icmp_ge (tgt := 39) hx hb (a := i) (b := 8) (by omega) (by omega) d_Md_recover_13 (by decide) (fun c_13 => ?_) (fun c_13 => ?_)
      · refine lv_aload_n hx hb d_Md_recover_39 rfl (lv_at hl 0 rfl) ?_
        refine va_get (D := (dC, dI)) (ci := 6) (v := .int (zb mo)) (C := R_Md) (T := F_Md) (N := 21) hx hb hts i_Md hown hK hP 0 rfl rfl 6 (by decide) (hts _ wd_569) (fun _ h9 => h9) rfl d_Md_recover_40 ?_
        refine zb_if_eq (tgt := 50) hx hb d_Md_recover_43 (by decide) (fun c_43 => ?_) (fun c_43 => ?_)
        · refine lv_iload_n hx hb d_Md_recover_50 rfl (lv_at hl 1 rfl) ?_
          have hP9 := hP.sub (ws' := [(h0, zoMd mS mQ gK gV gH mL mo gM mch mA mP gI gR gT gF gS gE gC mB (-2) mz), (gK, zaI (cT 0) 1100 mk), (gV, zaI (cT 0) 1100 mv), (gH, zaZ (cT 2) 1100 mh), (gM, zaN (cT 0) 4 mm), (gI, zaN (cT 0) 8 mi), (gR, zaZ (cT 2) 8 mr), (gT, zaZ (cT 2) 260 mt), (gC, zaI (cT 0) 2080 cp)]) [0, 1, 2, 3, 4, 5, 6, 7, 8] rfl
          have hD9 := hD.sub (ws' := [(h0, zoMd mS mQ gK gV gH mL mo gM mch mA mP gI gR gT gF gS gE gC mB (-2) mz), (gK, zaI (cT 0) 1100 mk), (gV, zaI (cT 0) 1100 mv), (gH, zaZ (cT 2) 1100 mh), (gM, zaN (cT 0) 4 mm), (gI, zaN (cT 0) 8 mi), (gR, zaZ (cT 2) 8 mr), (gT, zaZ (cT 2) 260 mt), (gC, zaI (cT 0) 2080 cp)]) [0, 1, 2, 3, 4, 5, 6, 7, 8] (by decide) rfl
          have e0 := hcl c_43
          subst e0
          subst c_43
          exact W.iret hx hb hr (fun t ht hW => ⟨⟨(), trivial, by rw [h3, show i = 8 by omega], by rw [ht]; exact hP9, hD9⟩, hS.F ht⟩) hS.2.2 d_Md_recover_51
        · refine lv_aload_n hx hb d_Md_recover_46 rfl (lv_at hl 0 rfl) ?_
          refine zw_Q (X := [(h0, zoMd mS mQ gK gV gH mL mo gM mch mA mP gI gR gT gF gS gE gC mB (-2) mz), (gK, zaI (cT 0) 1100 mk), (gV, zaI (cT 0) 1100 mv), (gH, zaZ (cT 2) 1100 mh), (gM, zaN (cT 0) 4 mm), (gI, zaN (cT 0) 8 mi), (gR, zaZ (cT 2) 8 mr), (gT, zaZ (cT 2) 260 mt), (gC, zaI (cT 0) 2080 cp)]) (pl := []) (va_runV (As := []) (rest := []) ⟨hx, hb, hml, hown, hts⟩ (c_Md_undo l dC dI cT H.size h0 mS mQ gK gV gH mL mo gM mch mA mP gI gR gT gF gS gE gC mB (-2) mz mk mv mh mm (by first | omega | assumption) (by first | omega | assumption) (by first | omega | assumption)) (cwV 0 hts (zgV wd_658 wd_660 wp_11 wd_11 wd_661) rfl rfl rfl (by decide +kernel) ⟨Nat.le_of_ble_eq_true rfl, Nat.le_of_ble_eq_true rfl⟩) ⟨zPre_blind, va_recv hK hP (ci := 6) (q0 := 0) rfl rfl, zp_Q (X := [(h0, zoMd mS mQ gK gV gH mL mo gM mch mA mP gI gR gT gF gS gE gC mB (-2) mz), (gK, zaI (cT 0) 1100 mk), (gV, zaI (cT 0) 1100 mv), (gH, zaZ (cT 2) 1100 mh), (gM, zaN (cT 0) 4 mm), (gI, zaN (cT 0) 8 mi), (gR, zaZ (cT 2) 8 mr), (gT, zaZ (cT 2) 260 mt), (gC, zaI (cT 0) 2080 cp)]) (pl := []) hK hE hP hD [0, 1, 2, 3, 4] (by decide) rfl⟩ rfl rfl hl.1 rfl (lv_room (Nat.le_of_ble_eq_true rfl)) d_Md_recover_47 ⟨Nat.le_of_ble_eq_true rfl, Nat.le_of_ble_eq_true rfl⟩) hP hD hS hA [0, 1, 2, 3, 4] [5, 6, 7, 8] rfl (wr := [(gI, zaN (cT 0) 8 mi), (gR, zaZ (cT 2) 8 mr), (gT, zaZ (cT 2) 260 mt), (gC, zaI (cT 0) 2080 cp)]) rfl (by decide) (by decide) (fun zu => []) (fun _ => rfl) (fun zu H locs hφ hP hD hS => ?_)
          have hP : va_P (dC, dI) vwCl ([(gI, zaN (cT 0) 8 mi), (gR, zaZ (cT 2) 8 mr), (gT, zaZ (cT 2) 260 mt), (gC, zaI (cT 0) 2080 cp), (h0, zoMd mS mQ gK gV gH (zuL mL mch) false gM 0 mA mP gI gR gT gF gS gE gC mB (-2) mz), (gK, zaI (cT 0) 1100 (zvK mk mv mh mm mL mch)), (gV, zaI (cT 0) 1100 (zvV mk mv mh mm mL mch)), (gH, zaZ (cT 2) 1100 (zvH mk mv mh mm mL mch)), (gM, zaN (cT 0) 4 mm)]) H := hP
          have hD : va_D A ([(gI, zaN (cT 0) 8 mi), (gR, zaZ (cT 2) 8 mr), (gT, zaZ (cT 2) 260 mt), (gC, zaI (cT 0) 2080 cp), (h0, zoMd mS mQ gK gV gH (zuL mL mch) false gM 0 mA mP gI gR gT gF gS gE gC mB (-2) mz), (gK, zaI (cT 0) 1100 (zvK mk mv mh mm mL mch)), (gV, zaI (cT 0) 1100 (zvV mk mv mh mm mL mch)), (gH, zaZ (cT 2) 1100 (zvH mk mv mh mm mL mch)), (gM, zaN (cT 0) 4 mm)]) := hD
          refine lv_iload_n hx hb d_Md_recover_50 rfl (lv_at hl 1 rfl) ?_
          have hP9 := hP.sub (ws' := [(h0, zoMd mS mQ gK gV gH (zuL mL mch) false gM 0 mA mP gI gR gT gF gS gE gC mB (-2) mz), (gK, zaI (cT 0) 1100 (zvK mk mv mh mm mL mch)), (gV, zaI (cT 0) 1100 (zvV mk mv mh mm mL mch)), (gH, zaZ (cT 2) 1100 (zvH mk mv mh mm mL mch)), (gM, zaN (cT 0) 4 mm), (gI, zaN (cT 0) 8 mi), (gR, zaZ (cT 2) 8 mr), (gT, zaZ (cT 2) 260 mt), (gC, zaI (cT 0) 2080 cp)]) [4, 5, 6, 7, 8, 0, 1, 2, 3] rfl
          have hD9 := hD.sub (ws' := [(h0, zoMd mS mQ gK gV gH (zuL mL mch) false gM 0 mA mP gI gR gT gF gS gE gC mB (-2) mz), (gK, zaI (cT 0) 1100 (zvK mk mv mh mm mL mch)), (gV, zaI (cT 0) 1100 (zvV mk mv mh mm mL mch)), (gH, zaZ (cT 2) 1100 (zvH mk mv mh mm mL mch)), (gM, zaN (cT 0) 4 mm), (gI, zaN (cT 0) 8 mi), (gR, zaZ (cT 2) 8 mr), (gT, zaZ (cT 2) 260 mt), (gC, zaI (cT 0) 2080 cp)]) [4, 5, 6, 7, 8, 0, 1, 2, 3] (by decide) rfl
          exact W.iret hx hb hr (fun t ht hW => ⟨⟨(), trivial, by rw [h3, show i = 8 by omega], by rw [ht]; exact hP9, hD9⟩, hS.F ht⟩) hS.2.2 d_Md_recover_51
      · have hz3 := hmi i (by omega)
        have hz4 := hbs i (by omega)
        have hz5 := zcho_le mk i (zbst mt cp i (if mr i = true then mi i else 0) mB) mL
        refine lv_iload_n hx hb d_Md_recover_16 rfl (lv_at hl 1 rfl) ?_
        refine lv_aload_n hx hb d_Md_recover_17 rfl (lv_at hl 0 rfl) ?_
        refine lv_iload_n hx hb d_Md_recover_18 rfl (lv_at hl 2 rfl) ?_
        refine lv_aload_n hx hb d_Md_recover_19 rfl (lv_at hl 0 rfl) ?_
        refine lv_iload_n hx hb d_Md_recover_20 rfl (lv_at hl 2 rfl) ?_
        refine zw_R (r := .int (nI (zbst mt cp i (if mr i = true then mi i else 0) mB))) (va_runV (As := [.int (nI i)]) (rest := [.int (nI i), .ref h0, .int (nI n)]) ⟨hx, hb, hml, hown, hts⟩ (c_Md_best l dC dI cT h0 mS mQ gK gV gH mL mo gM mch mA mP gI gR gT gF gS gE gC mB (-2) mz i mr mi mt cp (by first | omega | assumption) (by first | omega | assumption) (by first | omega | assumption) (by first | omega | assumption)) (cwV 1 hts (zgV wd_712 wd_714 wp_18 wd_11 wd_715) rfl rfl rfl (by decide +kernel) ⟨Nat.le_of_ble_eq_true rfl, Nat.le_of_ble_eq_true rfl⟩) ⟨zPreR_blind, va_recv hK hP (ci := 6) (q0 := 0) rfl rfl, zp_R hK hE (zSub (X := [(h0, zoMd mS mQ gK gV gH mL mo gM mch mA mP gI gR gT gF gS gE gC mB (-2) mz), (gK, zaI (cT 0) 1100 mk), (gV, zaI (cT 0) 1100 mv), (gH, zaZ (cT 2) 1100 mh), (gM, zaN (cT 0) 4 mm), (gI, zaN (cT 0) 8 mi), (gR, zaZ (cT 2) 8 mr), (gT, zaZ (cT 2) 260 mt), (gC, zaI (cT 0) 2080 cp)]) (pl := []) hP [0, 6, 5, 7, 8] rfl)⟩ rfl rfl hl.1 rfl (lv_room (Nat.le_of_ble_eq_true rfl)) d_Md_recover_21 ⟨Nat.le_of_ble_eq_true rfl, Nat.le_of_ble_eq_true rfl⟩) ?_
        refine lv_aload_n hx hb d_Md_recover_24 rfl (lv_at hl 0 rfl) ?_
        refine va_get (D := (dC, dI)) (ci := 6) (v := .int (nI mL)) (C := R_Md) (T := F_Md) (N := 21) hx hb hts i_Md hown hK hP 0 rfl rfl 5 (by decide) (hts _ wd_568) (fun _ h9 => h9) rfl d_Md_recover_25 ?_
        refine zw_R (r := .int (nI (zcho mk i (zbst mt cp i (if mr i = true then mi i else 0) mB) mL))) (va_runV (As := [.int (nI i), .int (nI (zbst mt cp i (if mr i = true then mi i else 0) mB)), .int (nI mL)]) (rest := [.int (nI n)]) ⟨hx, hb, hml, hown, hts⟩ (c_Md_changesOn l dC dI cT h0 mS mQ gK gV gH mL mo gM mch mA mP gI gR gT gF gS gE gC mB (-2) mz i (zbst mt cp i (if mr i = true then mi i else 0) mB) mL mk (by first | omega | assumption) (by first | omega | assumption) (by first | omega | assumption) (by first | omega | assumption) (by first | omega | assumption)) (cwV 3 hts (zgV wd_716 wd_718 wp_19 wd_11 wd_719) rfl rfl rfl (by decide +kernel) ⟨Nat.le_of_ble_eq_true rfl, Nat.le_of_ble_eq_true rfl⟩) ⟨zPreR_blind, va_recv hK hP (ci := 6) (q0 := 0) rfl rfl, zp_R hK hE (zSub (X := [(h0, zoMd mS mQ gK gV gH mL mo gM mch mA mP gI gR gT gF gS gE gC mB (-2) mz), (gK, zaI (cT 0) 1100 mk), (gV, zaI (cT 0) 1100 mv), (gH, zaZ (cT 2) 1100 mh), (gM, zaN (cT 0) 4 mm), (gI, zaN (cT 0) 8 mi), (gR, zaZ (cT 2) 8 mr), (gT, zaZ (cT 2) 260 mt), (gC, zaI (cT 0) 2080 cp)]) (pl := []) hP [0, 1] rfl)⟩ rfl rfl hl.1 rfl (lv_room (Nat.le_of_ble_eq_true rfl)) d_Md_recover_28 ⟨Nat.le_of_ble_eq_true rfl, Nat.le_of_ble_eq_true rfl⟩) ?_
        refine zn_iadd hx hb d_Md_recover_31 ?_
        refine lv_istore_n (lv' := [(1, .int (nI (n + (zcho mk i (zbst mt cp i (if mr i = true then mi i else 0) mB) mL)))), (0, .ref h0), (2, .int (nI i))]) hx hb d_Md_recover_32 rfl hl (by decide) rfl (fun ls hl => ?_)
        refine lv_iinc (v := (nI (i + 1))) (lv' := [(2, .int (nI (i + 1))), (1, .int (nI (n + (zcho mk i (zbst mt cp i (if mr i = true then mi i else 0) mB) mL)))), (0, .ref h0)]) hx hb d_Md_recover_33 hl (k := 2) rfl (nI_1 _) (by decide) rfl (fun ls hl => ?_)
        refine lv_goto (tgt := 10) hx hb d_Md_recover_36 (by decide) ?_
        exact ih_10 (i + 1) (n + (zcho mk i (zbst mt cp i (if mr i = true then mi i else 0) mB) mL)) (by omega) (by first | omega | assumption) (by rw [h3]; rfl) H locs (hP.sub [0, 1, 2, 3, 4, 5, 6, 7, 8] rfl) (hD.sub [0, 1, 2, 3, 4, 5, 6, 7, 8] (by decide) rfl) hS ls (lv_sub hl [2, 1, 0] rfl)
  exact loop_10 (8 - 0 + 1) 0 0 (by omega) (by first | omega | assumption) rfl H locs (hP.sub [0, 1, 2, 3, 4, 5, 6, 7, 8] rfl) (hD.sub [0, 1, 2, 3, 4, 5, 6, 7, 8] (by decide) rfl) hS ls (lv_sub hl [2, 1, 0] rfl)
set_option maxHeartbeats 4000000 in
set_option maxRecDepth 100000 in
theorem c_Md_crash_ref (l : Launch) (dC : Nat → ClassId) (dI : Nat → Nat → Nat) (cT : Nat → ClassId) (sz : Nat) (h0 : Nat) (mS : Nat) (mQ : Nat) (gK : Nat) (gV : Nat) (gH : Nat) (mL : Nat) (mo : Bool) (gM : Nat) (mch : Nat) (mA : Nat) (mP : Nat) (gI : Nat) (gR : Nat) (gT : Nat) (gF : Nat) (gS : Nat) (gE : Nat) (gC : Nat) (mB : Nat) (ml : Int32) (mz : Int32) (k : Int32) (hno : k < (-1) ∨ nI 7 < k) : Met l y_Md_crash w_Md_crash ({ frames := 0, cells := 0, slots := 0, locals := 0 } : Room) (zPre (dC, dI) vwCl (zT cT) [.ref h0, .int k] ([(h0, zoMd mS mQ gK gV gH mL mo gM mch mA mP gI gR gT gF gS gE gC mB ml mz)]) sz) (zQ (dC, dI) vwCl (S := Unit) (fun zu => True) (fun zu => some (.int (-1))) (fun zu => [(h0, zoMd mS mQ gK gV gH mL mo gM mch mA mP gI gR gT gF gS gE gC mB ml mz)]) (va_A ([(h0, zoMd mS mQ gK gV gH mL mo gM mch mA mP gI gR gT gF gS gE gC mB ml mz)]) sz)) 0 0 (va_A ([(h0, zoMd mS mQ gK gV gH mL mo gM mch mA mP gI gR gT gF gS gE gC mB ml mz)]) sz) := by
  refine Met.ofW (cc := b_Md_crash) (maxL := 2) (ret := (some .int)) (by decide) rfl ?_
  intro p e s m args below meth c s₁ B hml hv
  obtain ⟨rfl, hsz, hP, hK, hD0, hE⟩ := hv
  have hx := B.exec
  have hb := B.bytes
  have hr := B.returns
  have hts := fun w h => atoms_spec (ws := w_Md_crash) B.pre w (List.mem_cons_of_mem _ h)
  have hown : s.vm.findClass R_Md = some m.cls := findClass_of_methodNamed B.named
  have hlocks := B.notSynchronized
  subst hsz
  have hD := hD0.self (sz := s.heap.size)
  generalize hAe : va_A ([(h0, zoMd mS mQ gK gV gH mL mo gM mch mA mP gI gR gT gF gS gE gC mB ml mz)]) s.heap.size = A at hD ⊢
  have hA : ∀ q : Nat, s.heap.size ≤ q → A q := fun q h => by rw [← hAe]; exact Or.inr h
  have hS : va_S A s.heap s.heap [] := va_S.rf
  have hl := lv_entry ([.ref h0, .int k]) (n := 2) (Nat.le_of_ble_eq_true rfl)
  rw [lg_entry_eq]
  generalize (lg_sl ([.ref h0, .int k]) ++ List.replicate (2 - (lg_sl ([.ref h0, .int k])).length) Slot.unset).toArray = ls at hl ⊢
  have hl : lv_has ls 2 [(0, .ref h0), (1, .int k)] := hl
  refine lv_iload_n hx hb d_Md_crash_0 rfl (lv_at hl 1 rfl) ?_
  refine lv_iconst (v := (-1)) hx hb d_Md_crash_1 (by decide) ?_
  refine lv_icmp_lt (tgt := 11) hx hb d_Md_crash_2 (by decide) (fun c_2 => ?_) (fun c_2 => ?_)
  · refine lv_iconst (v := (-1)) hx hb d_Md_crash_11 (by decide) ?_
    have hP9 := hP.sub (ws' := [(h0, zoMd mS mQ gK gV gH mL mo gM mch mA mP gI gR gT gF gS gE gC mB ml mz)]) [0] rfl
    have hD9 := hD.sub (ws' := [(h0, zoMd mS mQ gK gV gH mL mo gM mch mA mP gI gR gT gF gS gE gC mB ml mz)]) [0] (by decide) rfl
    exact W.iret hx hb hr (fun t ht hW => ⟨⟨(), trivial, rfl, by rw [ht]; exact hP9, hD9⟩, hS.F ht⟩) hS.2.2 d_Md_crash_12
  · refine lv_iload_n hx hb d_Md_crash_5 rfl (lv_at hl 1 rfl) ?_
    refine lv_bipush (v := (nI 7)) hx hb d_Md_crash_6 (by decide) ?_
    refine lv_icmp_le (tgt := 13) hx hb d_Md_crash_8 (by decide) (fun c_8 => ?_) (fun c_8 => ?_)
    · exact absurd hno (fun q => q.elim c_2 (fun q2 => absurd c_8 (Int32.not_le.mpr q2)))
    · refine lv_iconst (v := (-1)) hx hb d_Md_crash_11 (by decide) ?_
      have hP9 := hP.sub (ws' := [(h0, zoMd mS mQ gK gV gH mL mo gM mch mA mP gI gR gT gF gS gE gC mB ml mz)]) [0] rfl
      have hD9 := hD.sub (ws' := [(h0, zoMd mS mQ gK gV gH mL mo gM mch mA mP gI gR gT gF gS gE gC mB ml mz)]) [0] (by decide) rfl
      exact W.iret hx hb hr (fun t ht hW => ⟨⟨(), trivial, rfl, by rw [ht]; exact hP9, hD9⟩, hS.F ht⟩) hS.2.2 d_Md_crash_12
set_option maxHeartbeats 4000000 in
set_option maxRecDepth 100000 in
theorem c_Md_crash_none (l : Launch) (dC : Nat → ClassId) (dI : Nat → Nat → Nat) (cT : Nat → ClassId) (sz : Nat) (h0 : Nat) (mS : Nat) (mQ : Nat) (gK : Nat) (gV : Nat) (gH : Nat) (mL : Nat) (mo : Bool) (gM : Nat) (mch : Nat) (mA : Nat) (mP : Nat) (gI : Nat) (gR : Nat) (gT : Nat) (gF : Nat) (gS : Nat) (gE : Nat) (gC : Nat) (mB : Nat) (ml : Int32) (mz : Int32) (mk : Nat → Int32) (mv : Nat → Int32) (mh : Nat → Bool) (mm : Nat → Nat) (mi : Nat → Nat) (mr : Nat → Bool) (mt : Nat → Bool) (cp : Nat → Int32) (hL : mL ≤ 1000) (hkey : ∀ i, 1 ≤ i → i ≤ mL → ¬ mk i < 0 → isIn (mk i) 32 = true) (hB : mB ≤ 256) (hcp : ∀ j, okc (cp j)) (hch : mch ≤ 4) (hLu : mL + mch + 1 ≤ 1000) (hmm : ∀ j, j < mch → 1 ≤ mm j ∧ mm j ≤ mL) (hmi : ∀ p, p < 8 → mi p ≤ 1000) (hbs : ∀ p, p < 8 → zbst mt cp p (if mr p = true then mi p else 0) mB ≤ mL) (hcl : mo = false → mch = 0) : Met l y_Md_crash w_Md_crash ({ frames := 3, cells := 0, slots := 0, locals := 69 } : Room) (zPre (dC, dI) vwCl (zT cT) [.ref h0, .int (-1)] ([(h0, zoMd mS mQ gK gV gH mL mo gM mch mA mP gI gR gT gF gS gE gC mB ml mz), (gK, zaI (cT 0) 1100 mk), (gV, zaI (cT 0) 1100 mv), (gH, zaZ (cT 2) 1100 mh), (gM, zaN (cT 0) 4 mm), (gI, zaN (cT 0) 8 mi), (gR, zaZ (cT 2) 8 mr), (gT, zaZ (cT 2) 260 mt), (gC, zaI (cT 0) 2080 cp)]) sz) (zQ (dC, dI) vwCl (S := Unit) (fun zu => True) (fun zu => some (.int (nI (zsum mk (fun p => zbst mt cp p (if mr p = true then mi p else 0) mB) mL 8)))) (fun zu => [(h0, zoMd mS mQ gK gV gH (zuL mL mch) false gM 0 mA mP gI gR gT gF gS gE gC mB (-2) mz), (gK, zaI (cT 0) 1100 (zvK mk mv mh mm mL mch)), (gV, zaI (cT 0) 1100 (zvV mk mv mh mm mL mch)), (gH, zaZ (cT 2) 1100 (zvH mk mv mh mm mL mch)), (gM, zaN (cT 0) 4 mm), (gI, zaN (cT 0) 8 mi), (gR, zaZ (cT 2) 8 mr), (gT, zaZ (cT 2) 260 mt), (gC, zaI (cT 0) 2080 cp)]) (va_A ([(h0, zoMd mS mQ gK gV gH mL mo gM mch mA mP gI gR gT gF gS gE gC mB ml mz), (gK, zaI (cT 0) 1100 mk), (gV, zaI (cT 0) 1100 mv), (gH, zaZ (cT 2) 1100 mh), (gM, zaN (cT 0) 4 mm), (gI, zaN (cT 0) 8 mi), (gR, zaZ (cT 2) 8 mr), (gT, zaZ (cT 2) 260 mt), (gC, zaI (cT 0) 2080 cp)]) sz)) 0 0 (va_A ([(h0, zoMd mS mQ gK gV gH mL mo gM mch mA mP gI gR gT gF gS gE gC mB ml mz), (gK, zaI (cT 0) 1100 mk), (gV, zaI (cT 0) 1100 mv), (gH, zaZ (cT 2) 1100 mh), (gM, zaN (cT 0) 4 mm), (gI, zaN (cT 0) 8 mi), (gR, zaZ (cT 2) 8 mr), (gT, zaZ (cT 2) 260 mt), (gC, zaI (cT 0) 2080 cp)]) sz) := by
  refine Met.ofW (cc := b_Md_crash) (maxL := 2) (ret := (some .int)) (by decide) rfl ?_
  intro p e s m args below meth c s₁ B hml hv
  obtain ⟨rfl, hsz, hP, hK, hD0, hE⟩ := hv
  have hx := B.exec
  have hb := B.bytes
  have hr := B.returns
  have hts := fun w h => atoms_spec (ws := w_Md_crash) B.pre w (List.mem_cons_of_mem _ h)
  have hown : s.vm.findClass R_Md = some m.cls := findClass_of_methodNamed B.named
  have hlocks := B.notSynchronized
  subst hsz
  have hD := hD0.self (sz := s.heap.size)
  generalize hAe : va_A ([(h0, zoMd mS mQ gK gV gH mL mo gM mch mA mP gI gR gT gF gS gE gC mB ml mz), (gK, zaI (cT 0) 1100 mk), (gV, zaI (cT 0) 1100 mv), (gH, zaZ (cT 2) 1100 mh), (gM, zaN (cT 0) 4 mm), (gI, zaN (cT 0) 8 mi), (gR, zaZ (cT 2) 8 mr), (gT, zaZ (cT 2) 260 mt), (gC, zaI (cT 0) 2080 cp)]) s.heap.size = A at hD ⊢
  have hA : ∀ q : Nat, s.heap.size ≤ q → A q := fun q h => by rw [← hAe]; exact Or.inr h
  have hS : va_S A s.heap s.heap [] := va_S.rf
  have hl := lv_entry ([.ref h0, .int (-1)]) (n := 2) (Nat.le_of_ble_eq_true rfl)
  rw [lg_entry_eq]
  generalize (lg_sl ([.ref h0, .int (-1)]) ++ List.replicate (2 - (lg_sl ([.ref h0, .int (-1)])).length) Slot.unset).toArray = ls at hl ⊢
  have hl : lv_has ls 2 [(0, .ref h0), (1, .int (-1))] := hl
  refine lv_iload_n hx hb d_Md_crash_0 rfl (lv_at hl 1 rfl) ?_
  refine lv_iconst (v := (-1)) hx hb d_Md_crash_1 (by decide) ?_
  refine lv_icmp_lt (tgt := 11) hx hb d_Md_crash_2 (by decide) (fun c_2 => absurd c_2 (by decide)) (fun c_2 => ?_)
  refine lv_iload_n hx hb d_Md_crash_5 rfl (lv_at hl 1 rfl) ?_
  refine lv_bipush (v := (nI 7)) hx hb d_Md_crash_6 (by decide) ?_
  refine lv_icmp_le (tgt := 13) hx hb d_Md_crash_8 (by decide) (fun c_8 => ?_) (fun c_8 => absurd c_8 (fun q => q (by decide)))
  refine lv_iload_n hx hb d_Md_crash_13 rfl (lv_at hl 1 rfl) ?_
  refine lv_if_lt (tgt := 24) hx hb d_Md_crash_14 (by decide) (fun c_14 => ?_) (fun c_14 => absurd c_14 (fun q => q (by decide)))
  refine lv_aload_n hx hb d_Md_crash_24 rfl (lv_at hl 0 rfl) ?_
  refine zw_Q (X := [(h0, zoMd mS mQ gK gV gH mL mo gM mch mA mP gI gR gT gF gS gE gC mB ml mz), (gK, zaI (cT 0) 1100 mk), (gV, zaI (cT 0) 1100 mv), (gH, zaZ (cT 2) 1100 mh), (gM, zaN (cT 0) 4 mm), (gI, zaN (cT 0) 8 mi), (gR, zaZ (cT 2) 8 mr), (gT, zaZ (cT 2) 260 mt), (gC, zaI (cT 0) 2080 cp)]) (pl := []) (va_runV (As := []) (rest := []) ⟨hx, hb, hml, hown, hts⟩ (c_Md_recover l dC dI cT s.heap.size h0 mS mQ gK gV gH mL mo gM mch mA mP gI gR gT gF gS gE gC mB ml mz mk mv mh mm mi mr mt cp (by first | omega | assumption) (by first | omega | assumption) (by first | omega | assumption) (by first | omega | assumption) (by first | omega | assumption) (by first | omega | assumption) (by first | omega | assumption) (by first | omega | assumption) (by first | omega | assumption) (by first | omega | assumption)) (cwV 0 hts (zgV wd_708 wd_710 wp_17 wd_11 wd_711) rfl rfl rfl (by decide +kernel) ⟨Nat.le_of_ble_eq_true rfl, Nat.le_of_ble_eq_true rfl⟩) ⟨zPre_blind, va_recv hK hP (ci := 6) (q0 := 0) rfl rfl, zp_Q (X := [(h0, zoMd mS mQ gK gV gH mL mo gM mch mA mP gI gR gT gF gS gE gC mB ml mz), (gK, zaI (cT 0) 1100 mk), (gV, zaI (cT 0) 1100 mv), (gH, zaZ (cT 2) 1100 mh), (gM, zaN (cT 0) 4 mm), (gI, zaN (cT 0) 8 mi), (gR, zaZ (cT 2) 8 mr), (gT, zaZ (cT 2) 260 mt), (gC, zaI (cT 0) 2080 cp)]) (pl := []) hK hE hP hD [0, 1, 2, 3, 4, 5, 6, 7, 8] (by decide) rfl⟩ rfl rfl hl.1 rfl (lv_room (Nat.le_of_ble_eq_true rfl)) d_Md_crash_25 ⟨Nat.le_of_ble_eq_true rfl, Nat.le_of_ble_eq_true rfl⟩) hP hD hS hA [0, 1, 2, 3, 4, 5, 6, 7, 8] [] rfl (wr := []) rfl (by decide) (by decide) (fun zu => [.int (nI (zsum mk (fun p => zbst mt cp p (if mr p = true then mi p else 0) mB) mL 8))]) (fun _ => rfl) (fun zu H locs hφ hP hD hS => ?_)
  have hP : va_P (dC, dI) vwCl ([(h0, zoMd mS mQ gK gV gH (zuL mL mch) false gM 0 mA mP gI gR gT gF gS gE gC mB (-2) mz), (gK, zaI (cT 0) 1100 (zvK mk mv mh mm mL mch)), (gV, zaI (cT 0) 1100 (zvV mk mv mh mm mL mch)), (gH, zaZ (cT 2) 1100 (zvH mk mv mh mm mL mch)), (gM, zaN (cT 0) 4 mm), (gI, zaN (cT 0) 8 mi), (gR, zaZ (cT 2) 8 mr), (gT, zaZ (cT 2) 260 mt), (gC, zaI (cT 0) 2080 cp)]) H := hP
  have hD : va_D A ([(h0, zoMd mS mQ gK gV gH (zuL mL mch) false gM 0 mA mP gI gR gT gF gS gE gC mB (-2) mz), (gK, zaI (cT 0) 1100 (zvK mk mv mh mm mL mch)), (gV, zaI (cT 0) 1100 (zvV mk mv mh mm mL mch)), (gH, zaZ (cT 2) 1100 (zvH mk mv mh mm mL mch)), (gM, zaN (cT 0) 4 mm), (gI, zaN (cT 0) 8 mi), (gR, zaZ (cT 2) 8 mr), (gT, zaZ (cT 2) 260 mt), (gC, zaI (cT 0) 2080 cp)]) := hD
  have hP9 := hP.sub (ws' := [(h0, zoMd mS mQ gK gV gH (zuL mL mch) false gM 0 mA mP gI gR gT gF gS gE gC mB (-2) mz), (gK, zaI (cT 0) 1100 (zvK mk mv mh mm mL mch)), (gV, zaI (cT 0) 1100 (zvV mk mv mh mm mL mch)), (gH, zaZ (cT 2) 1100 (zvH mk mv mh mm mL mch)), (gM, zaN (cT 0) 4 mm), (gI, zaN (cT 0) 8 mi), (gR, zaZ (cT 2) 8 mr), (gT, zaZ (cT 2) 260 mt), (gC, zaI (cT 0) 2080 cp)]) [0, 1, 2, 3, 4, 5, 6, 7, 8] rfl
  have hD9 := hD.sub (ws' := [(h0, zoMd mS mQ gK gV gH (zuL mL mch) false gM 0 mA mP gI gR gT gF gS gE gC mB (-2) mz), (gK, zaI (cT 0) 1100 (zvK mk mv mh mm mL mch)), (gV, zaI (cT 0) 1100 (zvV mk mv mh mm mL mch)), (gH, zaZ (cT 2) 1100 (zvH mk mv mh mm mL mch)), (gM, zaN (cT 0) 4 mm), (gI, zaN (cT 0) 8 mi), (gR, zaZ (cT 2) 8 mr), (gT, zaZ (cT 2) 260 mt), (gC, zaI (cT 0) 2080 cp)]) [0, 1, 2, 3, 4, 5, 6, 7, 8] (by decide) rfl
  exact W.iret hx hb hr (fun t ht hW => ⟨⟨(), trivial, rfl, by rw [ht]; exact hP9, hD9⟩, hS.F ht⟩) hS.2.2 d_Md_crash_28
set_option maxHeartbeats 4000000 in
set_option maxRecDepth 100000 in
theorem c_Md_crash_page (l : Launch) (dC : Nat → ClassId) (dI : Nat → Nat → Nat) (cT : Nat → ClassId) (sz : Nat) (h0 : Nat) (mS : Nat) (mQ : Nat) (gK : Nat) (gV : Nat) (gH : Nat) (mL : Nat) (mo : Bool) (gM : Nat) (mch : Nat) (mA : Nat) (mP : Nat) (gI : Nat) (gR : Nat) (gT : Nat) (gF : Nat) (gS : Nat) (gE : Nat) (gC : Nat) (mB : Nat) (ml : Int32) (mz : Int32) (pg : Nat) (mk : Nat → Int32) (mv : Nat → Int32) (mh : Nat → Bool) (mm : Nat → Nat) (mi : Nat → Nat) (mr : Nat → Bool) (mt : Nat → Bool) (cp : Nat → Int32) (hpg : pg < 8) (hL : mL ≤ 1000) (hkey : ∀ i, 1 ≤ i → i ≤ mL → ¬ mk i < 0 → isIn (mk i) 32 = true) (hB : mB ≤ 256) (hcp : ∀ j, okc (cp j)) (hch : mch ≤ 4) (hLu : mL + mch + 1 ≤ 1000) (hmm : ∀ j, j < mch → 1 ≤ mm j ∧ mm j ≤ mL) (hmi : ∀ p, p < 8 → mi p ≤ 1000) (hbs : ∀ p, p < 8 → zbst mt cp p (if (va_up mr pg false) p = true then mi p else 0) mB ≤ mL) (hcl : mo = false → mch = 0) : Met l y_Md_crash w_Md_crash ({ frames := 3, cells := 0, slots := 0, locals := 69 } : Room) (zPre (dC, dI) vwCl (zT cT) [.ref h0, .int (nI pg)] ([(h0, zoMd mS mQ gK gV gH mL mo gM mch mA mP gI gR gT gF gS gE gC mB ml mz), (gK, zaI (cT 0) 1100 mk), (gV, zaI (cT 0) 1100 mv), (gH, zaZ (cT 2) 1100 mh), (gM, zaN (cT 0) 4 mm), (gI, zaN (cT 0) 8 mi), (gR, zaZ (cT 2) 8 mr), (gT, zaZ (cT 2) 260 mt), (gC, zaI (cT 0) 2080 cp)]) sz) (zQ (dC, dI) vwCl (S := Unit) (fun zu => True) (fun zu => some (.int (nI (zsum mk (fun p => zbst mt cp p (if (va_up mr pg false) p = true then mi p else 0) mB) mL 8)))) (fun zu => [(h0, zoMd mS mQ gK gV gH (zuL mL mch) false gM 0 mA mP gI gR gT gF gS gE gC mB (-2) mz), (gK, zaI (cT 0) 1100 (zvK mk mv mh mm mL mch)), (gV, zaI (cT 0) 1100 (zvV mk mv mh mm mL mch)), (gH, zaZ (cT 2) 1100 (zvH mk mv mh mm mL mch)), (gM, zaN (cT 0) 4 mm), (gI, zaN (cT 0) 8 mi), (gR, zaZ (cT 2) 8 (va_up mr pg false)), (gT, zaZ (cT 2) 260 mt), (gC, zaI (cT 0) 2080 cp)]) (va_A ([(h0, zoMd mS mQ gK gV gH mL mo gM mch mA mP gI gR gT gF gS gE gC mB ml mz), (gK, zaI (cT 0) 1100 mk), (gV, zaI (cT 0) 1100 mv), (gH, zaZ (cT 2) 1100 mh), (gM, zaN (cT 0) 4 mm), (gI, zaN (cT 0) 8 mi), (gR, zaZ (cT 2) 8 mr), (gT, zaZ (cT 2) 260 mt), (gC, zaI (cT 0) 2080 cp)]) sz)) 0 0 (va_A ([(h0, zoMd mS mQ gK gV gH mL mo gM mch mA mP gI gR gT gF gS gE gC mB ml mz), (gK, zaI (cT 0) 1100 mk), (gV, zaI (cT 0) 1100 mv), (gH, zaZ (cT 2) 1100 mh), (gM, zaN (cT 0) 4 mm), (gI, zaN (cT 0) 8 mi), (gR, zaZ (cT 2) 8 mr), (gT, zaZ (cT 2) 260 mt), (gC, zaI (cT 0) 2080 cp)]) sz) := by
  refine Met.ofW (cc := b_Md_crash) (maxL := 2) (ret := (some .int)) (by decide) rfl ?_
  intro p e s m args below meth c s₁ B hml hv
  obtain ⟨rfl, hsz, hP, hK, hD0, hE⟩ := hv
  have hx := B.exec
  have hb := B.bytes
  have hr := B.returns
  have hts := fun w h => atoms_spec (ws := w_Md_crash) B.pre w (List.mem_cons_of_mem _ h)
  have hown : s.vm.findClass R_Md = some m.cls := findClass_of_methodNamed B.named
  have hlocks := B.notSynchronized
  subst hsz
  have hD := hD0.self (sz := s.heap.size)
  generalize hAe : va_A ([(h0, zoMd mS mQ gK gV gH mL mo gM mch mA mP gI gR gT gF gS gE gC mB ml mz), (gK, zaI (cT 0) 1100 mk), (gV, zaI (cT 0) 1100 mv), (gH, zaZ (cT 2) 1100 mh), (gM, zaN (cT 0) 4 mm), (gI, zaN (cT 0) 8 mi), (gR, zaZ (cT 2) 8 mr), (gT, zaZ (cT 2) 260 mt), (gC, zaI (cT 0) 2080 cp)]) s.heap.size = A at hD ⊢
  have hA : ∀ q : Nat, s.heap.size ≤ q → A q := fun q h => by rw [← hAe]; exact Or.inr h
  have hS : va_S A s.heap s.heap [] := va_S.rf
  have hl := lv_entry ([.ref h0, .int (nI pg)]) (n := 2) (Nat.le_of_ble_eq_true rfl)
  rw [lg_entry_eq]
  generalize (lg_sl ([.ref h0, .int (nI pg)]) ++ List.replicate (2 - (lg_sl ([.ref h0, .int (nI pg)])).length) Slot.unset).toArray = ls at hl ⊢
  have hl : lv_has ls 2 [(0, .ref h0), (1, .int (nI pg))] := hl
  refine lv_iload_n hx hb d_Md_crash_0 rfl (lv_at hl 1 rfl) ?_
  refine lv_iconst (v := (-1)) hx hb d_Md_crash_1 (by decide) ?_
  refine lv_icmp_lt (tgt := 11) hx hb d_Md_crash_2 (by decide) (fun c_2 => absurd c_2 (by rw [Int32.lt_iff_toInt_lt, nI_toInt (by omega), show (-1 : Int32).toInt = -1 from by decide]; omega)) (fun c_2 => ?_)
  refine lv_iload_n hx hb d_Md_crash_5 rfl (lv_at hl 1 rfl) ?_
  refine lv_bipush (v := (nI 7)) hx hb d_Md_crash_6 (by decide) ?_
  refine zn_icmp_le (tgt := 13) hx hb (a := pg) (b := 7) (by omega) (by omega) d_Md_crash_8 (by decide) (fun c_8 => ?_) (fun c_8 => absurd c_8 (by omega))
  refine lv_iload_n hx hb d_Md_crash_13 rfl (lv_at hl 1 rfl) ?_
  refine zn_if_lt (tgt := 24) hx hb (a := pg) (by omega) d_Md_crash_14 (by decide) (fun c => c.elim) (fun _ => ?_)
  refine lv_aload_n hx hb d_Md_crash_17 rfl (lv_at hl 0 rfl) ?_
  refine va_get (D := (dC, dI)) (ci := 6) (v := .ref gR) (C := R_Md) (T := F_Md) (N := 21) hx hb hts i_Md hown hK hP 0 rfl rfl 12 (by decide) (hts _ wd_575) (fun _ h9 => h9) rfl d_Md_crash_18 ?_
  refine lv_iload_n hx hb d_Md_crash_21 rfl (lv_at hl 1 rfl) ?_
  refine lv_iconst (v := (nI 0)) hx hb d_Md_crash_22 (by decide) ?_
  refine W.eq (g2 := F0 m 23 ls [.int (zb false), .int (nI pg), .ref gR]) rfl ?_
  refine zn_zastB hx hb hK hP hD hS 6 2 rfl rfl (i := pg) (x := false) (by omega) (by omega) d_Md_crash_23 (fun H locs hP hD hS => ?_)
  have hP : va_P (dC, dI) vwCl ([(h0, zoMd mS mQ gK gV gH mL mo gM mch mA mP gI gR gT gF gS gE gC mB ml mz), (gK, zaI (cT 0) 1100 mk), (gV, zaI (cT 0) 1100 mv), (gH, zaZ (cT 2) 1100 mh), (gM, zaN (cT 0) 4 mm), (gI, zaN (cT 0) 8 mi), (gR, zaZ (cT 2) 8 (va_up mr pg false)), (gT, zaZ (cT 2) 260 mt), (gC, zaI (cT 0) 2080 cp)]) H := hP
  have hD : va_D A ([(h0, zoMd mS mQ gK gV gH mL mo gM mch mA mP gI gR gT gF gS gE gC mB ml mz), (gK, zaI (cT 0) 1100 mk), (gV, zaI (cT 0) 1100 mv), (gH, zaZ (cT 2) 1100 mh), (gM, zaN (cT 0) 4 mm), (gI, zaN (cT 0) 8 mi), (gR, zaZ (cT 2) 8 (va_up mr pg false)), (gT, zaZ (cT 2) 260 mt), (gC, zaI (cT 0) 2080 cp)]) := hD
  refine lv_aload_n hx hb d_Md_crash_24 rfl (lv_at hl 0 rfl) ?_
  refine zw_Q (X := [(h0, zoMd mS mQ gK gV gH mL mo gM mch mA mP gI gR gT gF gS gE gC mB ml mz), (gK, zaI (cT 0) 1100 mk), (gV, zaI (cT 0) 1100 mv), (gH, zaZ (cT 2) 1100 mh), (gM, zaN (cT 0) 4 mm), (gI, zaN (cT 0) 8 mi), (gR, zaZ (cT 2) 8 (va_up mr pg false)), (gT, zaZ (cT 2) 260 mt), (gC, zaI (cT 0) 2080 cp)]) (pl := []) (va_runV (As := []) (rest := []) ⟨hx, hb, hml, hown, hts⟩ (c_Md_recover l dC dI cT H.size h0 mS mQ gK gV gH mL mo gM mch mA mP gI gR gT gF gS gE gC mB ml mz mk mv mh mm mi (va_up mr pg false) mt cp (by first | omega | assumption) (by first | omega | assumption) (by first | omega | assumption) (by first | omega | assumption) (by first | omega | assumption) (by first | omega | assumption) (by first | omega | assumption) (by first | omega | assumption) (by first | omega | assumption) (by first | omega | assumption)) (cwV 0 hts (zgV wd_708 wd_710 wp_17 wd_11 wd_711) rfl rfl rfl (by decide +kernel) ⟨Nat.le_of_ble_eq_true rfl, Nat.le_of_ble_eq_true rfl⟩) ⟨zPre_blind, va_recv hK hP (ci := 6) (q0 := 0) rfl rfl, zp_Q (X := [(h0, zoMd mS mQ gK gV gH mL mo gM mch mA mP gI gR gT gF gS gE gC mB ml mz), (gK, zaI (cT 0) 1100 mk), (gV, zaI (cT 0) 1100 mv), (gH, zaZ (cT 2) 1100 mh), (gM, zaN (cT 0) 4 mm), (gI, zaN (cT 0) 8 mi), (gR, zaZ (cT 2) 8 (va_up mr pg false)), (gT, zaZ (cT 2) 260 mt), (gC, zaI (cT 0) 2080 cp)]) (pl := []) hK hE hP hD [0, 1, 2, 3, 4, 5, 6, 7, 8] (by decide) rfl⟩ rfl rfl hl.1 rfl (lv_room (Nat.le_of_ble_eq_true rfl)) d_Md_crash_25 ⟨Nat.le_of_ble_eq_true rfl, Nat.le_of_ble_eq_true rfl⟩) hP hD hS hA [0, 1, 2, 3, 4, 5, 6, 7, 8] [] rfl (wr := []) rfl (by decide) (by decide) (fun zu => [.int (nI (zsum mk (fun p => zbst mt cp p (if (va_up mr pg false) p = true then mi p else 0) mB) mL 8))]) (fun _ => rfl) (fun zu H locs hφ hP hD hS => ?_)
  have hP : va_P (dC, dI) vwCl ([(h0, zoMd mS mQ gK gV gH (zuL mL mch) false gM 0 mA mP gI gR gT gF gS gE gC mB (-2) mz), (gK, zaI (cT 0) 1100 (zvK mk mv mh mm mL mch)), (gV, zaI (cT 0) 1100 (zvV mk mv mh mm mL mch)), (gH, zaZ (cT 2) 1100 (zvH mk mv mh mm mL mch)), (gM, zaN (cT 0) 4 mm), (gI, zaN (cT 0) 8 mi), (gR, zaZ (cT 2) 8 (va_up mr pg false)), (gT, zaZ (cT 2) 260 mt), (gC, zaI (cT 0) 2080 cp)]) H := hP
  have hD : va_D A ([(h0, zoMd mS mQ gK gV gH (zuL mL mch) false gM 0 mA mP gI gR gT gF gS gE gC mB (-2) mz), (gK, zaI (cT 0) 1100 (zvK mk mv mh mm mL mch)), (gV, zaI (cT 0) 1100 (zvV mk mv mh mm mL mch)), (gH, zaZ (cT 2) 1100 (zvH mk mv mh mm mL mch)), (gM, zaN (cT 0) 4 mm), (gI, zaN (cT 0) 8 mi), (gR, zaZ (cT 2) 8 (va_up mr pg false)), (gT, zaZ (cT 2) 260 mt), (gC, zaI (cT 0) 2080 cp)]) := hD
  have hP9 := hP.sub (ws' := [(h0, zoMd mS mQ gK gV gH (zuL mL mch) false gM 0 mA mP gI gR gT gF gS gE gC mB (-2) mz), (gK, zaI (cT 0) 1100 (zvK mk mv mh mm mL mch)), (gV, zaI (cT 0) 1100 (zvV mk mv mh mm mL mch)), (gH, zaZ (cT 2) 1100 (zvH mk mv mh mm mL mch)), (gM, zaN (cT 0) 4 mm), (gI, zaN (cT 0) 8 mi), (gR, zaZ (cT 2) 8 (va_up mr pg false)), (gT, zaZ (cT 2) 260 mt), (gC, zaI (cT 0) 2080 cp)]) [0, 1, 2, 3, 4, 5, 6, 7, 8] rfl
  have hD9 := hD.sub (ws' := [(h0, zoMd mS mQ gK gV gH (zuL mL mch) false gM 0 mA mP gI gR gT gF gS gE gC mB (-2) mz), (gK, zaI (cT 0) 1100 (zvK mk mv mh mm mL mch)), (gV, zaI (cT 0) 1100 (zvV mk mv mh mm mL mch)), (gH, zaZ (cT 2) 1100 (zvH mk mv mh mm mL mch)), (gM, zaN (cT 0) 4 mm), (gI, zaN (cT 0) 8 mi), (gR, zaZ (cT 2) 8 (va_up mr pg false)), (gT, zaZ (cT 2) 260 mt), (gC, zaI (cT 0) 2080 cp)]) [0, 1, 2, 3, 4, 5, 6, 7, 8] (by decide) rfl
  exact W.iret hx hb hr (fun t ht hW => ⟨⟨(), trivial, rfl, by rw [ht]; exact hP9, hD9⟩, hS.F ht⟩) hS.2.2 d_Md_crash_28
set_option maxHeartbeats 4000000 in
set_option maxRecDepth 100000 in
theorem c_Md_lose (l : Launch) (dC : Nat → ClassId) (dI : Nat → Nat → Nat) (cT : Nat → ClassId) (sz : Nat) (h0 : Nat) (mS : Nat) (mQ : Nat) (gK : Nat) (gV : Nat) (gH : Nat) (mL : Nat) (mo : Bool) (gM : Nat) (mch : Nat) (mA : Nat) (mP : Nat) (gI : Nat) (gR : Nat) (gT : Nat) (gF : Nat) (gS : Nat) (gE : Nat) (gC : Nat) (mB : Nat) (ml : Int32) (mz : Int32) (mk : Nat → Int32) (mv : Nat → Int32) (mh : Nat → Bool) (mm : Nat → Nat) (mi : Nat → Nat) (mr : Nat → Bool) (mt : Nat → Bool) (cp : Nat → Int32) (hL : mL ≤ 1000) (hkey : ∀ i, 1 ≤ i → i ≤ mL → ¬ mk i < 0 → isIn (mk i) 32 = true) (hB : mB ≤ 256) (hcp : ∀ j, okc (cp j)) (hch : mch ≤ 4) (hLu : mL + mch + 1 ≤ 1000) (hmm : ∀ j, j < mch → 1 ≤ mm j ∧ mm j ≤ mL) (hmi : ∀ p, p < 8 → mi p ≤ 1000) (hbs : ∀ p, p < 8 → zbst mt cp p (if (zfill mr false 8) p = true then mi p else 0) mB ≤ mL) (hcl : mo = false → mch = 0) : Met l y_Md_lose w_Md_lose ({ frames := 3, cells := 0, slots := 0, locals := 69 } : Room) (zPre (dC, dI) vwCl (zT cT) [.ref h0] ([(h0, zoMd mS mQ gK gV gH mL mo gM mch mA mP gI gR gT gF gS gE gC mB ml mz), (gK, zaI (cT 0) 1100 mk), (gV, zaI (cT 0) 1100 mv), (gH, zaZ (cT 2) 1100 mh), (gM, zaN (cT 0) 4 mm), (gI, zaN (cT 0) 8 mi), (gR, zaZ (cT 2) 8 mr), (gT, zaZ (cT 2) 260 mt), (gC, zaI (cT 0) 2080 cp)]) sz) (zQ (dC, dI) vwCl (S := Unit) (fun zu => True) (fun zu => some (.int (nI (zsum mk (fun p => zbst mt cp p (if (zfill mr false 8) p = true then mi p else 0) mB) mL 8)))) (fun zu => [(h0, zoMd mS mQ gK gV gH (zuL mL mch) false gM 0 mA mP gI gR gT gF gS gE gC mB (-2) mz), (gK, zaI (cT 0) 1100 (zvK mk mv mh mm mL mch)), (gV, zaI (cT 0) 1100 (zvV mk mv mh mm mL mch)), (gH, zaZ (cT 2) 1100 (zvH mk mv mh mm mL mch)), (gM, zaN (cT 0) 4 mm), (gI, zaN (cT 0) 8 mi), (gR, zaZ (cT 2) 8 (zfill mr false 8)), (gT, zaZ (cT 2) 260 mt), (gC, zaI (cT 0) 2080 cp)]) (va_A ([(h0, zoMd mS mQ gK gV gH mL mo gM mch mA mP gI gR gT gF gS gE gC mB ml mz), (gK, zaI (cT 0) 1100 mk), (gV, zaI (cT 0) 1100 mv), (gH, zaZ (cT 2) 1100 mh), (gM, zaN (cT 0) 4 mm), (gI, zaN (cT 0) 8 mi), (gR, zaZ (cT 2) 8 mr), (gT, zaZ (cT 2) 260 mt), (gC, zaI (cT 0) 2080 cp)]) sz)) 0 0 (va_A ([(h0, zoMd mS mQ gK gV gH mL mo gM mch mA mP gI gR gT gF gS gE gC mB ml mz), (gK, zaI (cT 0) 1100 mk), (gV, zaI (cT 0) 1100 mv), (gH, zaZ (cT 2) 1100 mh), (gM, zaN (cT 0) 4 mm), (gI, zaN (cT 0) 8 mi), (gR, zaZ (cT 2) 8 mr), (gT, zaZ (cT 2) 260 mt), (gC, zaI (cT 0) 2080 cp)]) sz) := by
  refine Met.ofW (cc := b_Md_lose) (maxL := 2) (ret := (some .int)) (by decide) rfl ?_
  intro p e s m args below meth c s₁ B hml hv
  obtain ⟨rfl, hsz, hP, hK, hD0, hE⟩ := hv
  have hx := B.exec
  have hb := B.bytes
  have hr := B.returns
  have hts := fun w h => atoms_spec (ws := w_Md_lose) B.pre w (List.mem_cons_of_mem _ h)
  have hown : s.vm.findClass R_Md = some m.cls := findClass_of_methodNamed B.named
  have hlocks := B.notSynchronized
  subst hsz
  have hD := hD0.self (sz := s.heap.size)
  generalize hAe : va_A ([(h0, zoMd mS mQ gK gV gH mL mo gM mch mA mP gI gR gT gF gS gE gC mB ml mz), (gK, zaI (cT 0) 1100 mk), (gV, zaI (cT 0) 1100 mv), (gH, zaZ (cT 2) 1100 mh), (gM, zaN (cT 0) 4 mm), (gI, zaN (cT 0) 8 mi), (gR, zaZ (cT 2) 8 mr), (gT, zaZ (cT 2) 260 mt), (gC, zaI (cT 0) 2080 cp)]) s.heap.size = A at hD ⊢
  have hA : ∀ q : Nat, s.heap.size ≤ q → A q := fun q h => by rw [← hAe]; exact Or.inr h
  have hS : va_S A s.heap s.heap [] := va_S.rf
  have hl := lv_entry ([.ref h0]) (n := 2) (Nat.le_of_ble_eq_true rfl)
  rw [lg_entry_eq]
  generalize (lg_sl ([.ref h0]) ++ List.replicate (2 - (lg_sl ([.ref h0])).length) Slot.unset).toArray = ls at hl ⊢
  have hl : lv_has ls 2 [(0, .ref h0)] := hl
  refine lv_iconst (v := (nI 0)) hx hb d_Md_lose_0 (by decide) ?_
  refine lv_istore_n (lv' := [(1, .int (nI 0)), (0, .ref h0)]) hx hb d_Md_lose_1 rfl hl (by decide) rfl (fun ls hl => ?_)
  have loop_2 : ∀ (fu : Nat) (i : Nat) (g : Nat → Bool), 8 - i < fu → (i ≤ 8) → (g = zfill mr false i) → ∀ (H : Heap) (locs : List Loc), va_P (dC, dI) vwCl ([(h0, zoMd mS mQ gK gV gH mL mo gM mch mA mP gI gR gT gF gS gE gC mB ml mz), (gK, zaI (cT 0) 1100 mk), (gV, zaI (cT 0) 1100 mv), (gH, zaZ (cT 2) 1100 mh), (gM, zaN (cT 0) 4 mm), (gI, zaN (cT 0) 8 mi), (gR, zaZ (cT 2) 8 g), (gT, zaZ (cT 2) 260 mt), (gC, zaI (cT 0) 2080 cp)]) H → va_D A ([(h0, zoMd mS mQ gK gV gH mL mo gM mch mA mP gI gR gT gF gS gE gC mB ml mz), (gK, zaI (cT 0) 1100 mk), (gV, zaI (cT 0) 1100 mv), (gH, zaZ (cT 2) 1100 mh), (gM, zaN (cT 0) 4 mm), (gI, zaN (cT 0) 8 mi), (gR, zaZ (cT 2) 8 g), (gT, zaZ (cT 2) 260 mt), (gC, zaI (cT 0) 2080 cp)]) → va_S A s.heap H locs → ∀ (ls : Array Slot), lv_has ls 2 [(0, .ref h0), (1, .int (nI i))] → W p l e (headSpec w_Md_lose ({ frames := 3, cells := 0, slots := 0, locals := 69 } : Room)).room s m ([.ref h0] : List Value).toArray below meth c H locs 0 0 (MQ below (zQ (dC, dI) vwCl (S := Unit) (fun zu => True) (fun zu => some (.int (nI (zsum mk (fun p => zbst mt cp p (if (zfill mr false 8) p = true then mi p else 0) mB) mL 8)))) (fun zu => [(h0, zoMd mS mQ gK gV gH (zuL mL mch) false gM 0 mA mP gI gR gT gF gS gE gC mB (-2) mz), (gK, zaI (cT 0) 1100 (zvK mk mv mh mm mL mch)), (gV, zaI (cT 0) 1100 (zvV mk mv mh mm mL mch)), (gH, zaZ (cT 2) 1100 (zvH mk mv mh mm mL mch)), (gM, zaN (cT 0) 4 mm), (gI, zaN (cT 0) 8 mi), (gR, zaZ (cT 2) 8 (zfill mr false 8)), (gT, zaZ (cT 2) 260 mt), (gC, zaI (cT 0) 2080 cp)]) A) ([.ref h0] : List Value).toArray s 0 0 A) (F0 m 2 ls []) := by
    intro fu
    induction fu with
    | zero => intro _ _ hm; exact absurd hm (Nat.not_lt_zero _)
    | succ fu ih_2 =>
      intro i g hm_2 h1 hg H locs hP hD hS ls hl
      refine lv_iload_n hx hb d_Md_lose_2 rfl (lv_at hl 1 rfl) ?_
      refine lv_bipush (v := (nI 8)) hx hb d_Md_lose_3 (by decide) ?_
      refine zn_icmp_ge (tgt := 21) hx hb (a := i) (b := 8) (by omega) (by omega) d_Md_lose_5 (by decide) (fun c_5 => ?_) (fun c_5 => ?_)
      · have hg8 : g = zfill mr false 8 := by rw [hg, show i = 8 by omega]
        rw [hg8] at hP hD
        have hP : va_P (dC, dI) vwCl ([(h0, zoMd mS mQ gK gV gH mL mo gM mch mA mP gI gR gT gF gS gE gC mB ml mz), (gK, zaI (cT 0) 1100 mk), (gV, zaI (cT 0) 1100 mv), (gH, zaZ (cT 2) 1100 mh), (gM, zaN (cT 0) 4 mm), (gI, zaN (cT 0) 8 mi), (gR, zaZ (cT 2) 8 (zfill mr false 8)), (gT, zaZ (cT 2) 260 mt), (gC, zaI (cT 0) 2080 cp)]) H := hP
        have hD : va_D A ([(h0, zoMd mS mQ gK gV gH mL mo gM mch mA mP gI gR gT gF gS gE gC mB ml mz), (gK, zaI (cT 0) 1100 mk), (gV, zaI (cT 0) 1100 mv), (gH, zaZ (cT 2) 1100 mh), (gM, zaN (cT 0) 4 mm), (gI, zaN (cT 0) 8 mi), (gR, zaZ (cT 2) 8 (zfill mr false 8)), (gT, zaZ (cT 2) 260 mt), (gC, zaI (cT 0) 2080 cp)]) := hD
        refine lv_aload_n hx hb d_Md_lose_21 rfl (lv_at hl 0 rfl) ?_
        refine zw_Q (X := [(h0, zoMd mS mQ gK gV gH mL mo gM mch mA mP gI gR gT gF gS gE gC mB ml mz), (gK, zaI (cT 0) 1100 mk), (gV, zaI (cT 0) 1100 mv), (gH, zaZ (cT 2) 1100 mh), (gM, zaN (cT 0) 4 mm), (gI, zaN (cT 0) 8 mi), (gR, zaZ (cT 2) 8 (zfill mr false 8)), (gT, zaZ (cT 2) 260 mt), (gC, zaI (cT 0) 2080 cp)]) (pl := []) (va_runV (As := []) (rest := []) ⟨hx, hb, hml, hown, hts⟩ (c_Md_recover l dC dI cT H.size h0 mS mQ gK gV gH mL mo gM mch mA mP gI gR gT gF gS gE gC mB ml mz mk mv mh mm mi (zfill mr false 8) mt cp (by first | omega | assumption) (by first | omega | assumption) (by first | omega | assumption) (by first | omega | assumption) (by first | omega | assumption) (by first | omega | assumption) (by first | omega | assumption) (by first | omega | assumption) (by first | omega | assumption) (by first | omega | assumption)) (cwV 0 hts (zgV wd_708 wd_710 wp_17 wd_11 wd_711) rfl rfl rfl (by decide +kernel) ⟨Nat.le_of_ble_eq_true rfl, Nat.le_of_ble_eq_true rfl⟩) ⟨zPre_blind, va_recv hK hP (ci := 6) (q0 := 0) rfl rfl, zp_Q (X := [(h0, zoMd mS mQ gK gV gH mL mo gM mch mA mP gI gR gT gF gS gE gC mB ml mz), (gK, zaI (cT 0) 1100 mk), (gV, zaI (cT 0) 1100 mv), (gH, zaZ (cT 2) 1100 mh), (gM, zaN (cT 0) 4 mm), (gI, zaN (cT 0) 8 mi), (gR, zaZ (cT 2) 8 (zfill mr false 8)), (gT, zaZ (cT 2) 260 mt), (gC, zaI (cT 0) 2080 cp)]) (pl := []) hK hE hP hD [0, 1, 2, 3, 4, 5, 6, 7, 8] (by decide) rfl⟩ rfl rfl hl.1 rfl (lv_room (Nat.le_of_ble_eq_true rfl)) d_Md_lose_22 ⟨Nat.le_of_ble_eq_true rfl, Nat.le_of_ble_eq_true rfl⟩) hP hD hS hA [0, 1, 2, 3, 4, 5, 6, 7, 8] [] rfl (wr := []) rfl (by decide) (by decide) (fun zu => [.int (nI (zsum mk (fun p => zbst mt cp p (if (zfill mr false 8) p = true then mi p else 0) mB) mL 8))]) (fun _ => rfl) (fun zu H locs hφ hP hD hS => ?_)
        have hP : va_P (dC, dI) vwCl ([(h0, zoMd mS mQ gK gV gH (zuL mL mch) false gM 0 mA mP gI gR gT gF gS gE gC mB (-2) mz), (gK, zaI (cT 0) 1100 (zvK mk mv mh mm mL mch)), (gV, zaI (cT 0) 1100 (zvV mk mv mh mm mL mch)), (gH, zaZ (cT 2) 1100 (zvH mk mv mh mm mL mch)), (gM, zaN (cT 0) 4 mm), (gI, zaN (cT 0) 8 mi), (gR, zaZ (cT 2) 8 (zfill mr false 8)), (gT, zaZ (cT 2) 260 mt), (gC, zaI (cT 0) 2080 cp)]) H := hP
        have hD : va_D A ([(h0, zoMd mS mQ gK gV gH (zuL mL mch) false gM 0 mA mP gI gR gT gF gS gE gC mB (-2) mz), (gK, zaI (cT 0) 1100 (zvK mk mv mh mm mL mch)), (gV, zaI (cT 0) 1100 (zvV mk mv mh mm mL mch)), (gH, zaZ (cT 2) 1100 (zvH mk mv mh mm mL mch)), (gM, zaN (cT 0) 4 mm), (gI, zaN (cT 0) 8 mi), (gR, zaZ (cT 2) 8 (zfill mr false 8)), (gT, zaZ (cT 2) 260 mt), (gC, zaI (cT 0) 2080 cp)]) := hD
        have hP9 := hP.sub (ws' := [(h0, zoMd mS mQ gK gV gH (zuL mL mch) false gM 0 mA mP gI gR gT gF gS gE gC mB (-2) mz), (gK, zaI (cT 0) 1100 (zvK mk mv mh mm mL mch)), (gV, zaI (cT 0) 1100 (zvV mk mv mh mm mL mch)), (gH, zaZ (cT 2) 1100 (zvH mk mv mh mm mL mch)), (gM, zaN (cT 0) 4 mm), (gI, zaN (cT 0) 8 mi), (gR, zaZ (cT 2) 8 (zfill mr false 8)), (gT, zaZ (cT 2) 260 mt), (gC, zaI (cT 0) 2080 cp)]) [0, 1, 2, 3, 4, 5, 6, 7, 8] rfl
        have hD9 := hD.sub (ws' := [(h0, zoMd mS mQ gK gV gH (zuL mL mch) false gM 0 mA mP gI gR gT gF gS gE gC mB (-2) mz), (gK, zaI (cT 0) 1100 (zvK mk mv mh mm mL mch)), (gV, zaI (cT 0) 1100 (zvV mk mv mh mm mL mch)), (gH, zaZ (cT 2) 1100 (zvH mk mv mh mm mL mch)), (gM, zaN (cT 0) 4 mm), (gI, zaN (cT 0) 8 mi), (gR, zaZ (cT 2) 8 (zfill mr false 8)), (gT, zaZ (cT 2) 260 mt), (gC, zaI (cT 0) 2080 cp)]) [0, 1, 2, 3, 4, 5, 6, 7, 8] (by decide) rfl
        exact W.iret hx hb hr (fun t ht hW => ⟨⟨(), trivial, rfl, by rw [ht]; exact hP9, hD9⟩, hS.F ht⟩) hS.2.2 d_Md_lose_25
      · refine lv_aload_n hx hb d_Md_lose_8 rfl (lv_at hl 0 rfl) ?_
        refine va_get (D := (dC, dI)) (ci := 6) (v := .ref gR) (C := R_Md) (T := F_Md) (N := 21) hx hb hts i_Md hown hK hP 0 rfl rfl 12 (by decide) (hts _ wd_575) (fun _ h9 => h9) rfl d_Md_lose_9 ?_
        refine lv_iload_n hx hb d_Md_lose_12 rfl (lv_at hl 1 rfl) ?_
        refine lv_iconst (v := (nI 0)) hx hb d_Md_lose_13 (by decide) ?_
        refine W.eq (g2 := F0 m 14 ls [.int (zb false), .int (nI i), .ref gR]) rfl ?_
        refine zn_zastB hx hb hK hP hD hS 6 2 rfl rfl (i := i) (x := false) (by omega) (by omega) d_Md_lose_14 (fun H locs hP hD hS => ?_)
        have hP : va_P (dC, dI) vwCl ([(h0, zoMd mS mQ gK gV gH mL mo gM mch mA mP gI gR gT gF gS gE gC mB ml mz), (gK, zaI (cT 0) 1100 mk), (gV, zaI (cT 0) 1100 mv), (gH, zaZ (cT 2) 1100 mh), (gM, zaN (cT 0) 4 mm), (gI, zaN (cT 0) 8 mi), (gR, zaZ (cT 2) 8 (va_up g i false)), (gT, zaZ (cT 2) 260 mt), (gC, zaI (cT 0) 2080 cp)]) H := hP
        have hD : va_D A ([(h0, zoMd mS mQ gK gV gH mL mo gM mch mA mP gI gR gT gF gS gE gC mB ml mz), (gK, zaI (cT 0) 1100 mk), (gV, zaI (cT 0) 1100 mv), (gH, zaZ (cT 2) 1100 mh), (gM, zaN (cT 0) 4 mm), (gI, zaN (cT 0) 8 mi), (gR, zaZ (cT 2) 8 (va_up g i false)), (gT, zaZ (cT 2) 260 mt), (gC, zaI (cT 0) 2080 cp)]) := hD
        refine lv_iinc (v := (nI (i + 1))) (lv' := [(1, .int (nI (i + 1))), (0, .ref h0)]) hx hb d_Md_lose_15 hl (k := 1) rfl (nI_1 _) (by decide) rfl (fun ls hl => ?_)
        refine lv_goto (tgt := 2) hx hb d_Md_lose_18 (by decide) ?_
        exact ih_2 (i + 1) (va_up g i false) (by omega) (by first | omega | assumption) (by rw [hg, zfill_s]) H locs (hP.sub [0, 1, 2, 3, 4, 5, 6, 7, 8] rfl) (hD.sub [0, 1, 2, 3, 4, 5, 6, 7, 8] (by decide) rfl) hS ls (lv_sub hl [1, 0] rfl)
  exact loop_2 (8 - 0 + 1) 0 mr (by omega) (by first | omega | assumption) (by rw [zfill_0]) s.heap [] (hP.sub [0, 1, 2, 3, 4, 5, 6, 7, 8] rfl) (hD.sub [0, 1, 2, 3, 4, 5, 6, 7, 8] (by decide) rfl) hS ls (lv_sub hl [1, 0] rfl)
set_option maxHeartbeats 4000000 in
set_option maxRecDepth 100000 in
theorem c_Md_restore_ref (l : Launch) (dC : Nat → ClassId) (dI : Nat → Nat → Nat) (cT : Nat → ClassId) (sz : Nat) (h0 : Nat) (mS : Nat) (mQ : Nat) (gK : Nat) (gV : Nat) (gH : Nat) (mL : Nat) (mo : Bool) (gM : Nat) (mch : Nat) (mA : Nat) (mP : Nat) (gI : Nat) (gR : Nat) (gT : Nat) (gF : Nat) (gS : Nat) (gE : Nat) (gC : Nat) (mB : Nat) (ml : Int32) (mz : Int32) (k : Int32) (mk : Nat → Int32) (hL : mL ≤ 1000) (hno : k < nI 1 ∨ nI (zcom mk mL) < k) : Met l y_Md_restore w_Md_restore ({ frames := 1, cells := 0, slots := 0, locals := 22 } : Room) (zPre (dC, dI) vwCl (zT cT) [.ref h0, .int k] ([(h0, zoMd mS mQ gK gV gH mL mo gM mch mA mP gI gR gT gF gS gE gC mB ml mz), (gK, zaI (cT 0) 1100 mk)]) sz) (zQ (dC, dI) vwCl (S := Unit) (fun zu => True) (fun zu => some (.int (-1))) (fun zu => [(h0, zoMd mS mQ gK gV gH mL mo gM mch mA mP gI gR gT gF gS gE gC mB ml mz), (gK, zaI (cT 0) 1100 mk)]) (va_A ([(h0, zoMd mS mQ gK gV gH mL mo gM mch mA mP gI gR gT gF gS gE gC mB ml mz), (gK, zaI (cT 0) 1100 mk)]) sz)) 0 0 (va_A ([(h0, zoMd mS mQ gK gV gH mL mo gM mch mA mP gI gR gT gF gS gE gC mB ml mz), (gK, zaI (cT 0) 1100 mk)]) sz) := by
  refine Met.ofW (cc := b_Md_restore) (maxL := 9) (ret := (some .int)) (by decide) rfl ?_
  intro p e s m args below meth c s₁ B hml hv
  obtain ⟨rfl, hsz, hP, hK, hD0, hE⟩ := hv
  have hx := B.exec
  have hb := B.bytes
  have hr := B.returns
  have hts := fun w h => atoms_spec (ws := w_Md_restore) B.pre w (List.mem_cons_of_mem _ h)
  have hown : s.vm.findClass R_Md = some m.cls := findClass_of_methodNamed B.named
  have hlocks := B.notSynchronized
  subst hsz
  have hD := hD0.self (sz := s.heap.size)
  generalize hAe : va_A ([(h0, zoMd mS mQ gK gV gH mL mo gM mch mA mP gI gR gT gF gS gE gC mB ml mz), (gK, zaI (cT 0) 1100 mk)]) s.heap.size = A at hD ⊢
  have hA : ∀ q : Nat, s.heap.size ≤ q → A q := fun q h => by rw [← hAe]; exact Or.inr h
  have hS : va_S A s.heap s.heap [] := va_S.rf
  have hl := lv_entry ([.ref h0, .int k]) (n := 9) (Nat.le_of_ble_eq_true rfl)
  rw [lg_entry_eq]
  generalize (lg_sl ([.ref h0, .int k]) ++ List.replicate (9 - (lg_sl ([.ref h0, .int k])).length) Slot.unset).toArray = ls at hl ⊢
  have hl : lv_has ls 9 [(0, .ref h0), (1, .int k)] := hl
  refine lv_iload_n hx hb d_Md_restore_0 rfl (lv_at hl 1 rfl) ?_
  refine lv_iconst (v := (nI 1)) hx hb d_Md_restore_1 (by decide) ?_
  refine lv_icmp_lt (tgt := 13) hx hb d_Md_restore_2 (by decide) (fun c_2 => ?_) (fun c_2 => ?_)
  · refine lv_iconst (v := (-1)) hx hb d_Md_restore_13 (by decide) ?_
    have hP9 := hP.sub (ws' := [(h0, zoMd mS mQ gK gV gH mL mo gM mch mA mP gI gR gT gF gS gE gC mB ml mz), (gK, zaI (cT 0) 1100 mk)]) [0, 1] rfl
    have hD9 := hD.sub (ws' := [(h0, zoMd mS mQ gK gV gH mL mo gM mch mA mP gI gR gT gF gS gE gC mB ml mz), (gK, zaI (cT 0) 1100 mk)]) [0, 1] (by decide) rfl
    exact W.iret hx hb hr (fun t ht hW => ⟨⟨(), trivial, rfl, by rw [ht]; exact hP9, hD9⟩, hS.F ht⟩) hS.2.2 d_Md_restore_14
  · refine lv_iload_n hx hb d_Md_restore_5 rfl (lv_at hl 1 rfl) ?_
    refine lv_aload_n hx hb d_Md_restore_6 rfl (lv_at hl 0 rfl) ?_
    refine zw_R (r := .int (nI (zcom mk mL))) (va_runV (As := []) (rest := [.int k]) ⟨hx, hb, hml, hown, hts⟩ (c_Md_commits l dC dI cT h0 mS mQ gK gV gH mL mo gM mch mA mP gI gR gT gF gS gE gC mB ml mz mk (by first | omega | assumption)) (cwV 0 hts (zgV wd_650 wd_652 wp_10 wd_11 wd_653) rfl rfl rfl (by decide +kernel) ⟨Nat.le_of_ble_eq_true rfl, Nat.le_of_ble_eq_true rfl⟩) ⟨zPreR_blind, va_recv hK hP (ci := 6) (q0 := 0) rfl rfl, zp_R hK hE (zSub (X := [(h0, zoMd mS mQ gK gV gH mL mo gM mch mA mP gI gR gT gF gS gE gC mB ml mz), (gK, zaI (cT 0) 1100 mk)]) (pl := []) hP [0, 1] rfl)⟩ rfl rfl hl.1 rfl (lv_room (Nat.le_of_ble_eq_true rfl)) d_Md_restore_7 ⟨Nat.le_of_ble_eq_true rfl, Nat.le_of_ble_eq_true rfl⟩) ?_
    refine lv_icmp_le (tgt := 15) hx hb d_Md_restore_10 (by decide) (fun c_10 => ?_) (fun c_10 => ?_)
    · exact absurd hno (fun q => q.elim c_2 (fun q2 => absurd c_10 (Int32.not_le.mpr q2)))
    · refine lv_iconst (v := (-1)) hx hb d_Md_restore_13 (by decide) ?_
      have hP9 := hP.sub (ws' := [(h0, zoMd mS mQ gK gV gH mL mo gM mch mA mP gI gR gT gF gS gE gC mB ml mz), (gK, zaI (cT 0) 1100 mk)]) [0, 1] rfl
      have hD9 := hD.sub (ws' := [(h0, zoMd mS mQ gK gV gH mL mo gM mch mA mP gI gR gT gF gS gE gC mB ml mz), (gK, zaI (cT 0) 1100 mk)]) [0, 1] (by decide) rfl
      exact W.iret hx hb hr (fun t ht hW => ⟨⟨(), trivial, rfl, by rw [ht]; exact hP9, hD9⟩, hS.F ht⟩) hS.2.2 d_Md_restore_14
set_option maxHeartbeats 4000000 in
set_option maxRecDepth 100000 in
theorem c_Md_restore_gone (l : Launch) (dC : Nat → ClassId) (dI : Nat → Nat → Nat) (cT : Nat → ClassId) (sz : Nat) (h0 : Nat) (mS : Nat) (mQ : Nat) (gK : Nat) (gV : Nat) (gH : Nat) (mL : Nat) (mo : Bool) (gM : Nat) (mch : Nat) (mA : Nat) (mP : Nat) (gI : Nat) (gR : Nat) (gT : Nat) (gF : Nat) (gS : Nat) (gE : Nat) (gC : Nat) (mB : Nat) (ml : Int32) (mz : Int32) (k : Nat) (r : Nat) (mk : Nat → Int32) (mt : Nat → Bool) (me : Nat → Nat) (cp : Nat → Int32) (hL : mL ≤ 1000) (hkey : ∀ i, 1 ≤ i → i ≤ mL → ¬ mk i < 0 → isIn (mk i) 32 = true) (hB : mB ≤ 256) (hcp : ∀ j, okc (cp j)) (h1r : 1 ≤ r) (hrL : r ≤ mL) (hk0 : 0 < k) (hkL : k ≤ zcom mk mL) (hkr : zcom mk r = k) (hlt : ∀ j, j < r → zcom mk j < k) (hme : ∀ b, me b ≤ 1000) (hz0 : zlst mt me r mB = 0) (hpu : 0 < mP) (hpu2 : mP < 2 ^ 30) : Met l y_Md_restore w_Md_restore ({ frames := 1, cells := 0, slots := 0, locals := 23 } : Room) (zPre (dC, dI) vwCl (zT cT) [.ref h0, .int (nI k)] ([(h0, zoMd mS mQ gK gV gH mL mo gM mch mA mP gI gR gT gF gS gE gC mB ml mz), (gK, zaI (cT 0) 1100 mk), (gT, zaZ (cT 2) 260 mt), (gE, zaN (cT 0) 260 me), (gC, zaI (cT 0) 2080 cp)]) sz) (zQ (dC, dI) vwCl (S := Unit) (fun zu => True) (fun zu => some (.int (-3))) (fun zu => [(h0, zoMd mS mQ gK gV gH mL mo gM mch mA mP gI gR gT gF gS gE gC mB ml mz), (gK, zaI (cT 0) 1100 mk), (gT, zaZ (cT 2) 260 mt), (gE, zaN (cT 0) 260 me), (gC, zaI (cT 0) 2080 cp)]) (va_A ([(h0, zoMd mS mQ gK gV gH mL mo gM mch mA mP gI gR gT gF gS gE gC mB ml mz), (gK, zaI (cT 0) 1100 mk), (gT, zaZ (cT 2) 260 mt), (gE, zaN (cT 0) 260 me), (gC, zaI (cT 0) 2080 cp)]) sz)) 0 0 (va_A ([(h0, zoMd mS mQ gK gV gH mL mo gM mch mA mP gI gR gT gF gS gE gC mB ml mz), (gK, zaI (cT 0) 1100 mk), (gT, zaZ (cT 2) 260 mt), (gE, zaN (cT 0) 260 me), (gC, zaI (cT 0) 2080 cp)]) sz) := by
  refine Met.ofW (cc := b_Md_restore) (maxL := 9) (ret := (some .int)) (by decide) rfl ?_
  intro p e s m args below meth c s₁ B hml hv
  obtain ⟨rfl, hsz, hP, hK, hD0, hE⟩ := hv
  have hx := B.exec
  have hb := B.bytes
  have hr := B.returns
  have hts := fun w h => atoms_spec (ws := w_Md_restore) B.pre w (List.mem_cons_of_mem _ h)
  have hown : s.vm.findClass R_Md = some m.cls := findClass_of_methodNamed B.named
  have hlocks := B.notSynchronized
  subst hsz
  have hD := hD0.self (sz := s.heap.size)
  generalize hAe : va_A ([(h0, zoMd mS mQ gK gV gH mL mo gM mch mA mP gI gR gT gF gS gE gC mB ml mz), (gK, zaI (cT 0) 1100 mk), (gT, zaZ (cT 2) 260 mt), (gE, zaN (cT 0) 260 me), (gC, zaI (cT 0) 2080 cp)]) s.heap.size = A at hD ⊢
  have hA : ∀ q : Nat, s.heap.size ≤ q → A q := fun q h => by rw [← hAe]; exact Or.inr h
  have hS : va_S A s.heap s.heap [] := va_S.rf
  have hl := lv_entry ([.ref h0, .int (nI k)]) (n := 9) (Nat.le_of_ble_eq_true rfl)
  rw [lg_entry_eq]
  generalize (lg_sl ([.ref h0, .int (nI k)]) ++ List.replicate (9 - (lg_sl ([.ref h0, .int (nI k)])).length) Slot.unset).toArray = ls at hl ⊢
  have hl : lv_has ls 9 [(0, .ref h0), (1, .int (nI k))] := hl
  have hzc := zcom_le mk mL
  have hzl := zlst_le mt me r mB
  refine lv_iload_n hx hb d_Md_restore_0 rfl (lv_at hl 1 rfl) ?_
  refine lv_iconst (v := (nI 1)) hx hb d_Md_restore_1 (by decide) ?_
  refine zn_icmp_lt (tgt := 13) hx hb (a := k) (b := 1) (by omega) (by omega) d_Md_restore_2 (by decide) (fun c_2 => absurd c_2 (by omega)) (fun c_2 => ?_)
  refine lv_iload_n hx hb d_Md_restore_5 rfl (lv_at hl 1 rfl) ?_
  refine lv_aload_n hx hb d_Md_restore_6 rfl (lv_at hl 0 rfl) ?_
  refine zw_R (r := .int (nI (zcom mk mL))) (va_runV (As := []) (rest := [.int (nI k)]) ⟨hx, hb, hml, hown, hts⟩ (c_Md_commits l dC dI cT h0 mS mQ gK gV gH mL mo gM mch mA mP gI gR gT gF gS gE gC mB ml mz mk (by first | omega | assumption)) (cwV 0 hts (zgV wd_650 wd_652 wp_10 wd_11 wd_653) rfl rfl rfl (by decide +kernel) ⟨Nat.le_of_ble_eq_true rfl, Nat.le_of_ble_eq_true rfl⟩) ⟨zPreR_blind, va_recv hK hP (ci := 6) (q0 := 0) rfl rfl, zp_R hK hE (zSub (X := [(h0, zoMd mS mQ gK gV gH mL mo gM mch mA mP gI gR gT gF gS gE gC mB ml mz), (gK, zaI (cT 0) 1100 mk), (gT, zaZ (cT 2) 260 mt), (gE, zaN (cT 0) 260 me), (gC, zaI (cT 0) 2080 cp)]) (pl := []) hP [0, 1] rfl)⟩ rfl rfl hl.1 rfl (lv_room (Nat.le_of_ble_eq_true rfl)) d_Md_restore_7 ⟨Nat.le_of_ble_eq_true rfl, Nat.le_of_ble_eq_true rfl⟩) ?_
  refine zn_icmp_le (tgt := 15) hx hb (a := k) (b := zcom mk mL) (by omega) (by omega) d_Md_restore_10 (by decide) (fun c_10 => ?_) (fun c_10 => absurd c_10 (by omega))
  refine lv_aload_n hx hb d_Md_restore_15 rfl (lv_at hl 0 rfl) ?_
  refine lv_iload_n hx hb d_Md_restore_16 rfl (lv_at hl 1 rfl) ?_
  refine zw_R (r := .int (nI r)) (va_runV (As := [.int (nI k)]) (rest := []) ⟨hx, hb, hml, hown, hts⟩ (c_Md_commitRecord l dC dI cT h0 mS mQ gK gV gH mL mo gM mch mA mP gI gR gT gF gS gE gC mB ml mz k r mk (by first | omega | assumption) (by first | omega | assumption) (by first | omega | assumption) (by first | omega | assumption) (by first | omega | assumption) (by first | omega | assumption)) (cwV 1 hts (zgV wd_728 wd_730 wp_20 wd_11 wd_731) rfl rfl rfl (by decide +kernel) ⟨Nat.le_of_ble_eq_true rfl, Nat.le_of_ble_eq_true rfl⟩) ⟨zPreR_blind, va_recv hK hP (ci := 6) (q0 := 0) rfl rfl, zp_R hK hE (zSub (X := [(h0, zoMd mS mQ gK gV gH mL mo gM mch mA mP gI gR gT gF gS gE gC mB ml mz), (gK, zaI (cT 0) 1100 mk), (gT, zaZ (cT 2) 260 mt), (gE, zaN (cT 0) 260 me), (gC, zaI (cT 0) 2080 cp)]) (pl := []) hP [0, 1] rfl)⟩ rfl rfl hl.1 rfl (lv_room (Nat.le_of_ble_eq_true rfl)) d_Md_restore_17 ⟨Nat.le_of_ble_eq_true rfl, Nat.le_of_ble_eq_true rfl⟩) ?_
  refine lv_istore_n (lv' := [(2, .int (nI r)), (0, .ref h0), (1, .int (nI k))]) hx hb d_Md_restore_20 rfl hl (by decide) rfl (fun ls hl => ?_)
  refine lv_iconst (v := (nI 0)) hx hb d_Md_restore_21 (by decide) ?_
  refine lv_istore_n (lv' := [(3, .int (nI 0)), (2, .int (nI r)), (0, .ref h0), (1, .int (nI k))]) hx hb d_Md_restore_22 rfl hl (by decide) rfl (fun ls hl => ?_)
  refine lv_iconst (v := (nI 1)) hx hb d_Md_restore_23 (by decide) ?_
  refine lv_istore (lv' := [(4, .int (nI 1)), (3, .int (nI 0)), (2, .int (nI r)), (0, .ref h0), (1, .int (nI k))]) hx hb d_Md_restore_24 hl (by decide) rfl (fun ls hl => ?_)
  have loop_26 : ∀ (fu : Nat) (i : Nat) (la : Nat), mB + 1 - i < fu → (1 ≤ i) → (i ≤ mB + 1) → (la = zlst mt me r (i - 1)) → (la ≤ 256) → ∀ (H : Heap) (locs : List Loc), va_P (dC, dI) vwCl ([(h0, zoMd mS mQ gK gV gH mL mo gM mch mA mP gI gR gT gF gS gE gC mB ml mz), (gK, zaI (cT 0) 1100 mk), (gT, zaZ (cT 2) 260 mt), (gE, zaN (cT 0) 260 me), (gC, zaI (cT 0) 2080 cp)]) H → va_D A ([(h0, zoMd mS mQ gK gV gH mL mo gM mch mA mP gI gR gT gF gS gE gC mB ml mz), (gK, zaI (cT 0) 1100 mk), (gT, zaZ (cT 2) 260 mt), (gE, zaN (cT 0) 260 me), (gC, zaI (cT 0) 2080 cp)]) → va_S A s.heap H locs → ∀ (ls : Array Slot), lv_has ls 9 [(0, .ref h0), (1, .int (nI k)), (2, .int (nI r)), (3, .int (nI la)), (4, .int (nI i))] → W p l e (headSpec w_Md_restore ({ frames := 1, cells := 0, slots := 0, locals := 23 } : Room)).room s m ([.ref h0, .int (nI k)] : List Value).toArray below meth c H locs 0 0 (MQ below (zQ (dC, dI) vwCl (S := Unit) (fun zu => True) (fun zu => some (.int (-3))) (fun zu => [(h0, zoMd mS mQ gK gV gH mL mo gM mch mA mP gI gR gT gF gS gE gC mB ml mz), (gK, zaI (cT 0) 1100 mk), (gT, zaZ (cT 2) 260 mt), (gE, zaN (cT 0) 260 me), (gC, zaI (cT 0) 2080 cp)]) A) ([.ref h0, .int (nI k)] : List Value).toArray s 0 0 A) (F0 m 26 ls []) := by
    intro fu
    induction fu with
    | zero => intro _ _ hm; exact absurd hm (Nat.not_lt_zero _)
    | succ fu ih_26 =>
      intro i la hm_26 h1 h2 h3 h4 H locs hP hD hS ls hl
      refine lv_iload hx hb d_Md_restore_26 (lv_at hl 4 rfl) ?_
      refine lv_aload_n hx hb d_Md_restore_28 rfl (lv_at hl 0 rfl) ?_
      refine va_get (D := (dC, dI)) (ci := 6) (v := .int (nI mB)) (C := R_Md) (T := F_Md) (N := 21) hx hb hts i_Md hown hK hP 0 rfl rfl 18 (by decide) (hts _ wd_581) (fun _ h9 => h9) rfl d_Md_restore_29 ?_
      refine zn_icmp_gt (tgt := 65) hx hb (a := i) (b := mB) (by omega) (by omega) d_Md_restore_32 (by decide) (fun c_32 => ?_) (fun c_32 => ?_)
      · have hla : la = zlst mt me r mB := by rw [h3, show i - 1 = mB by omega]
        refine lv_iload_n hx hb d_Md_restore_65 rfl (lv_at hl 3 rfl) ?_
        refine zn_if_ne (tgt := 79) hx hb (a := la) (by omega) d_Md_restore_66 (by decide) (fun c_66 => absurd c_66 (by omega)) (fun c_66 => ?_)
        refine lv_aload_n hx hb d_Md_restore_69 rfl (lv_at hl 0 rfl) ?_
        refine va_get (D := (dC, dI)) (ci := 6) (v := .int (nI mP)) (C := R_Md) (T := F_Md) (N := 21) hx hb hts i_Md hown hK hP 0 rfl rfl 10 (by decide) (hts _ wd_573) (fun _ h9 => h9) rfl d_Md_restore_70 ?_
        refine zn_if_le (tgt := 79) hx hb (a := mP) (by omega) d_Md_restore_73 (by decide) (fun c_73 => absurd c_73 (by omega)) (fun c_73 => ?_)
        refine lv_bipush (v := (-3)) hx hb d_Md_restore_76 (by decide) ?_
        have hP9 := hP.sub (ws' := [(h0, zoMd mS mQ gK gV gH mL mo gM mch mA mP gI gR gT gF gS gE gC mB ml mz), (gK, zaI (cT 0) 1100 mk), (gT, zaZ (cT 2) 260 mt), (gE, zaN (cT 0) 260 me), (gC, zaI (cT 0) 2080 cp)]) [0, 1, 2, 3, 4] rfl
        have hD9 := hD.sub (ws' := [(h0, zoMd mS mQ gK gV gH mL mo gM mch mA mP gI gR gT gF gS gE gC mB ml mz), (gK, zaI (cT 0) 1100 mk), (gT, zaZ (cT 2) 260 mt), (gE, zaN (cT 0) 260 me), (gC, zaI (cT 0) 2080 cp)]) [0, 1, 2, 3, 4] (by decide) rfl
        exact W.iret hx hb hr (fun t ht hW => ⟨⟨(), trivial, rfl, by rw [ht]; exact hP9, hD9⟩, hS.F ht⟩) hS.2.2 d_Md_restore_78
      · refine lv_aload_n hx hb d_Md_restore_35 rfl (lv_at hl 0 rfl) ?_
        refine va_get (D := (dC, dI)) (ci := 6) (v := .ref gT) (C := R_Md) (T := F_Md) (N := 21) hx hb hts i_Md hown hK hP 0 rfl rfl 13 (by decide) (hts _ wd_576) (fun _ h9 => h9) rfl d_Md_restore_36 ?_
        refine lv_iload hx hb d_Md_restore_39 (lv_at hl 4 rfl) ?_
        refine zn_zald hx hb hK hP 2 2 rfl rfl (i := i) (by omega) (by omega) d_Md_restore_41 ?_
        refine zb_if_eq (tgt := 59) hx hb d_Md_restore_42 (by decide) (fun c_42 => ?_) (fun c_42 => ?_)
        · refine lv_iinc (v := (nI (i + 1))) (lv' := [(4, .int (nI (i + 1))), (0, .ref h0), (1, .int (nI k)), (2, .int (nI r)), (3, .int (nI la))]) hx hb d_Md_restore_59 hl (k := 4) rfl (nI_1 _) (by decide) rfl (fun ls hl => ?_)
          refine lv_goto (tgt := 26) hx hb d_Md_restore_62 (by decide) ?_
          exact ih_26 (i + 1) la (by omega) (by first | omega | assumption) (by first | omega | assumption) (by rw [Nat.add_sub_cancel, zlst_pos (by omega), if_neg (fun q => by rw [c_42] at q; exact absurd q.1 (by decide))]; exact h3) (by omega) H locs (hP.sub [0, 1, 2, 3, 4] rfl) (hD.sub [0, 1, 2, 3, 4] (by decide) rfl) hS ls (lv_sub hl [1, 2, 3, 4, 0] rfl)
        · have hme1 := hme i
          refine lv_aload_n hx hb d_Md_restore_45 rfl (lv_at hl 0 rfl) ?_
          refine va_get (D := (dC, dI)) (ci := 6) (v := .ref gE) (C := R_Md) (T := F_Md) (N := 21) hx hb hts i_Md hown hK hP 0 rfl rfl 16 (by decide) (hts _ wd_579) (fun _ h9 => h9) rfl d_Md_restore_46 ?_
          refine lv_iload hx hb d_Md_restore_49 (lv_at hl 4 rfl) ?_
          refine zn_iald hx hb hK hP 3 0 rfl rfl (i := i) (by omega) (by omega) d_Md_restore_51 ?_
          refine lv_iload_n hx hb d_Md_restore_52 rfl (lv_at hl 2 rfl) ?_
          refine zn_icmp_ge (tgt := 59) hx hb (a := me i) (b := r) (by omega) (by omega) d_Md_restore_53 (by decide) (fun c_53 => ?_) (fun c_53 => ?_)
          · refine lv_iinc (v := (nI (i + 1))) (lv' := [(4, .int (nI (i + 1))), (0, .ref h0), (1, .int (nI k)), (2, .int (nI r)), (3, .int (nI la))]) hx hb d_Md_restore_59 hl (k := 4) rfl (nI_1 _) (by decide) rfl (fun ls hl => ?_)
            refine lv_goto (tgt := 26) hx hb d_Md_restore_62 (by decide) ?_
            exact ih_26 (i + 1) la (by omega) (by first | omega | assumption) (by first | omega | assumption) (by rw [Nat.add_sub_cancel, zlst_pos (by omega), if_neg (fun q => absurd q.2 (Nat.not_lt.mpr c_53))]; exact h3) (by omega) H locs (hP.sub [0, 1, 2, 3, 4] rfl) (hD.sub [0, 1, 2, 3, 4] (by decide) rfl) hS ls (lv_sub hl [1, 2, 3, 4, 0] rfl)
          · refine lv_iload hx hb d_Md_restore_56 (lv_at hl 4 rfl) ?_
            refine lv_istore_n (lv' := [(3, .int (nI i)), (0, .ref h0), (1, .int (nI k)), (2, .int (nI r)), (4, .int (nI i))]) hx hb d_Md_restore_58 rfl hl (by decide) rfl (fun ls hl => ?_)
            refine lv_iinc (v := (nI (i + 1))) (lv' := [(4, .int (nI (i + 1))), (3, .int (nI i)), (0, .ref h0), (1, .int (nI k)), (2, .int (nI r))]) hx hb d_Md_restore_59 hl (k := 4) rfl (nI_1 _) (by decide) rfl (fun ls hl => ?_)
            refine lv_goto (tgt := 26) hx hb d_Md_restore_62 (by decide) ?_
            exact ih_26 (i + 1) i (by omega) (by first | omega | assumption) (by first | omega | assumption) (by rw [Nat.add_sub_cancel, zlst_pos (by omega), if_pos ⟨c_42, c_53⟩]) (by omega) H locs (hP.sub [0, 1, 2, 3, 4] rfl) (hD.sub [0, 1, 2, 3, 4] (by decide) rfl) hS ls (lv_sub hl [2, 3, 4, 1, 0] rfl)
  exact loop_26 (mB + 1 - 1 + 1) 1 0 (by omega) (by first | omega | assumption) (by first | omega | assumption) rfl (by omega) s.heap [] (hP.sub [0, 1, 2, 3, 4] rfl) (hD.sub [0, 1, 2, 3, 4] (by decide) rfl) hS ls (lv_sub hl [3, 4, 2, 1, 0] rfl)
set_option maxHeartbeats 4000000 in
set_option maxRecDepth 100000 in
theorem c_Md_restore_ok (l : Launch) (dC : Nat → ClassId) (dI : Nat → Nat → Nat) (cT : Nat → ClassId) (sz : Nat) (h0 : Nat) (mS : Nat) (mQ : Nat) (gK : Nat) (gV : Nat) (gH : Nat) (mL : Nat) (mo : Bool) (gM : Nat) (mch : Nat) (mA : Nat) (mP : Nat) (gI : Nat) (gR : Nat) (gT : Nat) (gF : Nat) (gS : Nat) (gE : Nat) (gC : Nat) (mB : Nat) (ml : Int32) (mz : Int32) (k : Nat) (r : Nat) (mk : Nat → Int32) (mt : Nat → Bool) (me : Nat → Nat) (cp : Nat → Int32) (hL : mL ≤ 1000) (hkey : ∀ i, 1 ≤ i → i ≤ mL → ¬ mk i < 0 → isIn (mk i) 32 = true) (hB : mB ≤ 256) (hcp : ∀ j, okc (cp j)) (h1r : 1 ≤ r) (hrL : r ≤ mL) (hk0 : 0 < k) (hkL : k ≤ zcom mk mL) (hkr : zcom mk r = k) (hlt : ∀ j, j < r → zcom mk j < k) (hme : ∀ b, me b ≤ 1000) (hz0 : ¬ zlst mt me r mB = 0 ∨ mP = 0) (himg : ∀ p, p < 8 → zimg cp p (zlst mt me r mB) ≤ r) (hpu2 : mP < 2 ^ 30) : Met l y_Md_restore w_Md_restore ({ frames := 1, cells := 0, slots := 0, locals := 25 } : Room) (zPre (dC, dI) vwCl (zT cT) [.ref h0, .int (nI k)] ([(h0, zoMd mS mQ gK gV gH mL mo gM mch mA mP gI gR gT gF gS gE gC mB ml mz), (gK, zaI (cT 0) 1100 mk), (gT, zaZ (cT 2) 260 mt), (gE, zaN (cT 0) 260 me), (gC, zaI (cT 0) 2080 cp)]) sz) (zQ (dC, dI) vwCl (S := Unit) (fun zu => True) (fun zu => some (.int (nI (zsum mk (fun p => zimg cp p (zlst mt me r mB)) r 8)))) (fun zu => [(h0, zoMd mS mQ gK gV gH mL mo gM mch mA mP gI gR gT gF gS gE gC mB ml (nI r)), (gK, zaI (cT 0) 1100 mk), (gT, zaZ (cT 2) 260 mt), (gE, zaN (cT 0) 260 me), (gC, zaI (cT 0) 2080 cp)]) (va_A ([(h0, zoMd mS mQ gK gV gH mL mo gM mch mA mP gI gR gT gF gS gE gC mB ml mz), (gK, zaI (cT 0) 1100 mk), (gT, zaZ (cT 2) 260 mt), (gE, zaN (cT 0) 260 me), (gC, zaI (cT 0) 2080 cp)]) sz)) 0 0 (va_A ([(h0, zoMd mS mQ gK gV gH mL mo gM mch mA mP gI gR gT gF gS gE gC mB ml mz), (gK, zaI (cT 0) 1100 mk), (gT, zaZ (cT 2) 260 mt), (gE, zaN (cT 0) 260 me), (gC, zaI (cT 0) 2080 cp)]) sz) := by
  refine Met.ofW (cc := b_Md_restore) (maxL := 9) (ret := (some .int)) (by decide) rfl ?_
  intro p e s m args below meth c s₁ B hml hv
  obtain ⟨rfl, hsz, hP, hK, hD0, hE⟩ := hv
  have hx := B.exec
  have hb := B.bytes
  have hr := B.returns
  have hts := fun w h => atoms_spec (ws := w_Md_restore) B.pre w (List.mem_cons_of_mem _ h)
  have hown : s.vm.findClass R_Md = some m.cls := findClass_of_methodNamed B.named
  have hlocks := B.notSynchronized
  subst hsz
  have hD := hD0.self (sz := s.heap.size)
  generalize hAe : va_A ([(h0, zoMd mS mQ gK gV gH mL mo gM mch mA mP gI gR gT gF gS gE gC mB ml mz), (gK, zaI (cT 0) 1100 mk), (gT, zaZ (cT 2) 260 mt), (gE, zaN (cT 0) 260 me), (gC, zaI (cT 0) 2080 cp)]) s.heap.size = A at hD ⊢
  have hA : ∀ q : Nat, s.heap.size ≤ q → A q := fun q h => by rw [← hAe]; exact Or.inr h
  have hS : va_S A s.heap s.heap [] := va_S.rf
  have hl := lv_entry ([.ref h0, .int (nI k)]) (n := 9) (Nat.le_of_ble_eq_true rfl)
  rw [lg_entry_eq]
  generalize (lg_sl ([.ref h0, .int (nI k)]) ++ List.replicate (9 - (lg_sl ([.ref h0, .int (nI k)])).length) Slot.unset).toArray = ls at hl ⊢
  have hl : lv_has ls 9 [(0, .ref h0), (1, .int (nI k))] := hl
  have hzc := zcom_le mk mL
  have hzl := zlst_le mt me r mB
  refine lv_iload_n hx hb d_Md_restore_0 rfl (lv_at hl 1 rfl) ?_
  refine lv_iconst (v := (nI 1)) hx hb d_Md_restore_1 (by decide) ?_
  refine zn_icmp_lt (tgt := 13) hx hb (a := k) (b := 1) (by omega) (by omega) d_Md_restore_2 (by decide) (fun c_2 => absurd c_2 (by omega)) (fun c_2 => ?_)
  refine lv_iload_n hx hb d_Md_restore_5 rfl (lv_at hl 1 rfl) ?_
  refine lv_aload_n hx hb d_Md_restore_6 rfl (lv_at hl 0 rfl) ?_
  refine zw_R (r := .int (nI (zcom mk mL))) (va_runV (As := []) (rest := [.int (nI k)]) ⟨hx, hb, hml, hown, hts⟩ (c_Md_commits l dC dI cT h0 mS mQ gK gV gH mL mo gM mch mA mP gI gR gT gF gS gE gC mB ml mz mk (by first | omega | assumption)) (cwV 0 hts (zgV wd_650 wd_652 wp_10 wd_11 wd_653) rfl rfl rfl (by decide +kernel) ⟨Nat.le_of_ble_eq_true rfl, Nat.le_of_ble_eq_true rfl⟩) ⟨zPreR_blind, va_recv hK hP (ci := 6) (q0 := 0) rfl rfl, zp_R hK hE (zSub (X := [(h0, zoMd mS mQ gK gV gH mL mo gM mch mA mP gI gR gT gF gS gE gC mB ml mz), (gK, zaI (cT 0) 1100 mk), (gT, zaZ (cT 2) 260 mt), (gE, zaN (cT 0) 260 me), (gC, zaI (cT 0) 2080 cp)]) (pl := []) hP [0, 1] rfl)⟩ rfl rfl hl.1 rfl (lv_room (Nat.le_of_ble_eq_true rfl)) d_Md_restore_7 ⟨Nat.le_of_ble_eq_true rfl, Nat.le_of_ble_eq_true rfl⟩) ?_
  refine zn_icmp_le (tgt := 15) hx hb (a := k) (b := zcom mk mL) (by omega) (by omega) d_Md_restore_10 (by decide) (fun c_10 => ?_) (fun c_10 => absurd c_10 (by omega))
  refine lv_aload_n hx hb d_Md_restore_15 rfl (lv_at hl 0 rfl) ?_
  refine lv_iload_n hx hb d_Md_restore_16 rfl (lv_at hl 1 rfl) ?_
  refine zw_R (r := .int (nI r)) (va_runV (As := [.int (nI k)]) (rest := []) ⟨hx, hb, hml, hown, hts⟩ (c_Md_commitRecord l dC dI cT h0 mS mQ gK gV gH mL mo gM mch mA mP gI gR gT gF gS gE gC mB ml mz k r mk (by first | omega | assumption) (by first | omega | assumption) (by first | omega | assumption) (by first | omega | assumption) (by first | omega | assumption) (by first | omega | assumption)) (cwV 1 hts (zgV wd_728 wd_730 wp_20 wd_11 wd_731) rfl rfl rfl (by decide +kernel) ⟨Nat.le_of_ble_eq_true rfl, Nat.le_of_ble_eq_true rfl⟩) ⟨zPreR_blind, va_recv hK hP (ci := 6) (q0 := 0) rfl rfl, zp_R hK hE (zSub (X := [(h0, zoMd mS mQ gK gV gH mL mo gM mch mA mP gI gR gT gF gS gE gC mB ml mz), (gK, zaI (cT 0) 1100 mk), (gT, zaZ (cT 2) 260 mt), (gE, zaN (cT 0) 260 me), (gC, zaI (cT 0) 2080 cp)]) (pl := []) hP [0, 1] rfl)⟩ rfl rfl hl.1 rfl (lv_room (Nat.le_of_ble_eq_true rfl)) d_Md_restore_17 ⟨Nat.le_of_ble_eq_true rfl, Nat.le_of_ble_eq_true rfl⟩) ?_
  refine lv_istore_n (lv' := [(2, .int (nI r)), (0, .ref h0), (1, .int (nI k))]) hx hb d_Md_restore_20 rfl hl (by decide) rfl (fun ls hl => ?_)
  refine lv_iconst (v := (nI 0)) hx hb d_Md_restore_21 (by decide) ?_
  refine lv_istore_n (lv' := [(3, .int (nI 0)), (2, .int (nI r)), (0, .ref h0), (1, .int (nI k))]) hx hb d_Md_restore_22 rfl hl (by decide) rfl (fun ls hl => ?_)
  refine lv_iconst (v := (nI 1)) hx hb d_Md_restore_23 (by decide) ?_
  refine lv_istore (lv' := [(4, .int (nI 1)), (3, .int (nI 0)), (2, .int (nI r)), (0, .ref h0), (1, .int (nI k))]) hx hb d_Md_restore_24 hl (by decide) rfl (fun ls hl => ?_)
  have loop_26 : ∀ (fu : Nat) (i : Nat) (la : Nat), mB + 1 - i < fu → (1 ≤ i) → (i ≤ mB + 1) → (la = zlst mt me r (i - 1)) → (la ≤ 256) → ∀ (H : Heap) (locs : List Loc), va_P (dC, dI) vwCl ([(h0, zoMd mS mQ gK gV gH mL mo gM mch mA mP gI gR gT gF gS gE gC mB ml mz), (gK, zaI (cT 0) 1100 mk), (gT, zaZ (cT 2) 260 mt), (gE, zaN (cT 0) 260 me), (gC, zaI (cT 0) 2080 cp)]) H → va_D A ([(h0, zoMd mS mQ gK gV gH mL mo gM mch mA mP gI gR gT gF gS gE gC mB ml mz), (gK, zaI (cT 0) 1100 mk), (gT, zaZ (cT 2) 260 mt), (gE, zaN (cT 0) 260 me), (gC, zaI (cT 0) 2080 cp)]) → va_S A s.heap H locs → ∀ (ls : Array Slot), lv_has ls 9 [(0, .ref h0), (1, .int (nI k)), (2, .int (nI r)), (3, .int (nI la)), (4, .int (nI i))] → W p l e (headSpec w_Md_restore ({ frames := 1, cells := 0, slots := 0, locals := 25 } : Room)).room s m ([.ref h0, .int (nI k)] : List Value).toArray below meth c H locs 0 0 (MQ below (zQ (dC, dI) vwCl (S := Unit) (fun zu => True) (fun zu => some (.int (nI (zsum mk (fun p => zimg cp p (zlst mt me r mB)) r 8)))) (fun zu => [(h0, zoMd mS mQ gK gV gH mL mo gM mch mA mP gI gR gT gF gS gE gC mB ml (nI r)), (gK, zaI (cT 0) 1100 mk), (gT, zaZ (cT 2) 260 mt), (gE, zaN (cT 0) 260 me), (gC, zaI (cT 0) 2080 cp)]) A) ([.ref h0, .int (nI k)] : List Value).toArray s 0 0 A) (F0 m 26 ls []) := by
    intro fu
    induction fu with
    | zero => intro _ _ hm; exact absurd hm (Nat.not_lt_zero _)
    | succ fu ih_26 =>
      intro i la hm_26 h1 h2 h3 h4 H locs hP hD hS ls hl
      refine lv_iload hx hb d_Md_restore_26 (lv_at hl 4 rfl) ?_
      refine lv_aload_n hx hb d_Md_restore_28 rfl (lv_at hl 0 rfl) ?_
      refine va_get (D := (dC, dI)) (ci := 6) (v := .int (nI mB)) (C := R_Md) (T := F_Md) (N := 21) hx hb hts i_Md hown hK hP 0 rfl rfl 18 (by decide) (hts _ wd_581) (fun _ h9 => h9) rfl d_Md_restore_29 ?_
      refine zn_icmp_gt (tgt := 65) hx hb (a := i) (b := mB) (by omega) (by omega) d_Md_restore_32 (by decide) (fun c_32 => ?_) (fun c_32 => ?_)
      · have hla : la = zlst mt me r mB := by rw [h3, show i - 1 = mB by omega]
        refine lv_iload_n hx hb d_Md_restore_65 rfl (lv_at hl 3 rfl) ?_
        refine zn_if_ne (tgt := 79) hx hb (a := la) (by omega) d_Md_restore_66 (by decide) (fun c_66 => ?_) (fun c_66 => ?_)
        · refine lv_iconst (v := (nI 0)) hx hb d_Md_restore_79 (by decide) ?_
          refine lv_istore (lv' := [(4, .int (nI 0)), (0, .ref h0), (1, .int (nI k)), (2, .int (nI r)), (3, .int (nI la))]) hx hb d_Md_restore_80 hl (by decide) rfl (fun ls hl => ?_)
          refine lv_iconst (v := (nI 0)) hx hb d_Md_restore_82 (by decide) ?_
          refine lv_istore (lv' := [(5, .int (nI 0)), (4, .int (nI 0)), (0, .ref h0), (1, .int (nI k)), (2, .int (nI r)), (3, .int (nI la))]) hx hb d_Md_restore_83 hl (by decide) rfl (fun ls hl => ?_)
          have loop_85 : ∀ (fu : Nat) (pq : Nat) (n : Nat), 8 - pq < fu → (pq ≤ 8) → (n = zsum mk (fun p => zimg cp p (zlst mt me r mB)) r pq) → ∀ (H : Heap) (locs : List Loc), va_P (dC, dI) vwCl ([(h0, zoMd mS mQ gK gV gH mL mo gM mch mA mP gI gR gT gF gS gE gC mB ml mz), (gK, zaI (cT 0) 1100 mk), (gT, zaZ (cT 2) 260 mt), (gE, zaN (cT 0) 260 me), (gC, zaI (cT 0) 2080 cp)]) H → va_D A ([(h0, zoMd mS mQ gK gV gH mL mo gM mch mA mP gI gR gT gF gS gE gC mB ml mz), (gK, zaI (cT 0) 1100 mk), (gT, zaZ (cT 2) 260 mt), (gE, zaN (cT 0) 260 me), (gC, zaI (cT 0) 2080 cp)]) → va_S A s.heap H locs → ∀ (ls : Array Slot), lv_has ls 9 [(0, .ref h0), (1, .int (nI k)), (2, .int (nI r)), (3, .int (nI la)), (4, .int (nI n)), (5, .int (nI pq))] → W p l e (headSpec w_Md_restore ({ frames := 1, cells := 0, slots := 0, locals := 25 } : Room)).room s m ([.ref h0, .int (nI k)] : List Value).toArray below meth c H locs 0 0 (MQ below (zQ (dC, dI) vwCl (S := Unit) (fun zu => True) (fun zu => some (.int (nI (zsum mk (fun p => zimg cp p (zlst mt me r mB)) r 8)))) (fun zu => [(h0, zoMd mS mQ gK gV gH mL mo gM mch mA mP gI gR gT gF gS gE gC mB ml (nI r)), (gK, zaI (cT 0) 1100 mk), (gT, zaZ (cT 2) 260 mt), (gE, zaN (cT 0) 260 me), (gC, zaI (cT 0) 2080 cp)]) A) ([.ref h0, .int (nI k)] : List Value).toArray s 0 0 A) (F0 m 85 ls []) := by
            intro fu
            induction fu with
            | zero => intro _ _ hm; exact absurd hm (Nat.not_lt_zero _)
            | succ fu ih_85 =>
              intro pq n hm_85 h13 h14 H locs hP hD hS ls hl
              refine lv_iload hx hb d_Md_restore_85 (lv_at hl 5 rfl) ?_
              have hz1 := zsum_le mk (fun p => zimg cp p (zlst mt me r mB)) r pq
              have hz2 : pq * r ≤ 8 * r := Nat.mul_le_mul_right _ h13
              refine lv_bipush (v := (nI 8)) hx hb d_Md_restore_87 (by decide) ?_
              refine zn_icmp_ge (tgt := 180) hx hb (a := pq) (b := 8) (by omega) (by omega) d_Md_restore_89 (by decide) (fun c_89 => ?_) (fun c_89 => ?_)
              · refine lv_aload_n hx hb d_Md_restore_180 rfl (lv_at hl 0 rfl) ?_
                refine lv_iload_n hx hb d_Md_restore_181 rfl (lv_at hl 2 rfl) ?_
                refine va_put (D := (dC, dI)) (ci := 6) (v := .int (nI r)) (ty := .int) (C := R_Md) (T := F_Md) (N := 21) hx hb hts i_Md t_Md t_Md_ok n_Md hown hK hP hD hS 0 rfl rfl 20 (by decide) (hts _ wd_583) (fun _ h9 => h9) rfl (by decide +kernel) rfl rfl (Nat.le_of_ble_eq_true rfl) d_Md_restore_182 (fun H locs hP hD hS => ?_)
                have hP : va_P (dC, dI) vwCl ([(h0, zoMd mS mQ gK gV gH mL mo gM mch mA mP gI gR gT gF gS gE gC mB ml (nI r)), (gK, zaI (cT 0) 1100 mk), (gT, zaZ (cT 2) 260 mt), (gE, zaN (cT 0) 260 me), (gC, zaI (cT 0) 2080 cp)]) H := hP
                have hD : va_D A ([(h0, zoMd mS mQ gK gV gH mL mo gM mch mA mP gI gR gT gF gS gE gC mB ml (nI r)), (gK, zaI (cT 0) 1100 mk), (gT, zaZ (cT 2) 260 mt), (gE, zaN (cT 0) 260 me), (gC, zaI (cT 0) 2080 cp)]) := hD
                refine lv_iload hx hb d_Md_restore_185 (lv_at hl 4 rfl) ?_
                have hP9 := hP.sub (ws' := [(h0, zoMd mS mQ gK gV gH mL mo gM mch mA mP gI gR gT gF gS gE gC mB ml (nI r)), (gK, zaI (cT 0) 1100 mk), (gT, zaZ (cT 2) 260 mt), (gE, zaN (cT 0) 260 me), (gC, zaI (cT 0) 2080 cp)]) [0, 1, 2, 3, 4] rfl
                have hD9 := hD.sub (ws' := [(h0, zoMd mS mQ gK gV gH mL mo gM mch mA mP gI gR gT gF gS gE gC mB ml (nI r)), (gK, zaI (cT 0) 1100 mk), (gT, zaZ (cT 2) 260 mt), (gE, zaN (cT 0) 260 me), (gC, zaI (cT 0) 2080 cp)]) [0, 1, 2, 3, 4] (by decide) rfl
                exact W.iret hx hb hr (fun t ht hW => ⟨⟨(), trivial, by rw [h14, show pq = 8 by omega], by rw [ht]; exact hP9, hD9⟩, hS.F ht⟩) hS.2.2 d_Md_restore_187
              · refine lv_iconst (v := (nI 0)) hx hb d_Md_restore_92 (by decide) ?_
                refine lv_istore (lv' := [(6, .int (nI 0)), (0, .ref h0), (1, .int (nI k)), (2, .int (nI r)), (3, .int (nI la)), (4, .int (nI n)), (5, .int (nI pq))]) hx hb d_Md_restore_93 hl (by decide) rfl (fun ls hl => ?_)
                refine lv_iload_n hx hb d_Md_restore_95 rfl (lv_at hl 4 rfl) ?_
                refine zn_if_ne (tgt := 103) hx hb (a := la) (by omega) d_Md_restore_96 (by decide) (fun c_96 => ?_) (fun c_96 => ?_)
                · refine lv_iconst (v := (nI 0)) hx hb d_Md_restore_103 (by decide) ?_
                  refine W.eq (g2 := F0 m 104 ls [.int (zb false)]) rfl ?_
                  refine lv_istore (lv' := [(7, .int (zb false)), (6, .int (nI 0)), (0, .ref h0), (1, .int (nI k)), (2, .int (nI r)), (3, .int (nI la)), (4, .int (nI n)), (5, .int (nI pq))]) hx hb d_Md_restore_104 hl (by decide) rfl (fun ls hl => ?_)
                  refine lv_iload_n hx hb d_Md_restore_106 rfl (lv_at hl 5 rfl) ?_
                  refine lv_istore (lv' := [(8, .int (nI la)), (7, .int (zb false)), (6, .int (nI 0)), (0, .ref h0), (1, .int (nI k)), (2, .int (nI r)), (3, .int (nI la)), (4, .int (nI n)), (5, .int (nI pq))]) hx hb d_Md_restore_107 hl (by decide) rfl (fun ls hl => ?_)
                  have loop_109 : ∀ (fu : Nat) (b : Nat) (fr : Nat) (fd : Bool), b < fu → (b ≤ la) → (fr ≤ 1000) → (if fd = true then fr = zimg cp pq la else fr = 0 ∧ zimg cp pq la = zimg cp pq b) → ∀ (H : Heap) (locs : List Loc), va_P (dC, dI) vwCl ([(h0, zoMd mS mQ gK gV gH mL mo gM mch mA mP gI gR gT gF gS gE gC mB ml mz), (gK, zaI (cT 0) 1100 mk), (gT, zaZ (cT 2) 260 mt), (gE, zaN (cT 0) 260 me), (gC, zaI (cT 0) 2080 cp)]) H → va_D A ([(h0, zoMd mS mQ gK gV gH mL mo gM mch mA mP gI gR gT gF gS gE gC mB ml mz), (gK, zaI (cT 0) 1100 mk), (gT, zaZ (cT 2) 260 mt), (gE, zaN (cT 0) 260 me), (gC, zaI (cT 0) 2080 cp)]) → va_S A s.heap H locs → ∀ (ls : Array Slot), lv_has ls 9 [(0, .ref h0), (1, .int (nI k)), (2, .int (nI r)), (3, .int (nI la)), (4, .int (nI n)), (5, .int (nI pq)), (6, .int (nI fr)), (7, .int (zb fd)), (8, .int (nI b))] → W p l e (headSpec w_Md_restore ({ frames := 1, cells := 0, slots := 0, locals := 25 } : Room)).room s m ([.ref h0, .int (nI k)] : List Value).toArray below meth c H locs 0 0 (MQ below (zQ (dC, dI) vwCl (S := Unit) (fun zu => True) (fun zu => some (.int (nI (zsum mk (fun p => zimg cp p (zlst mt me r mB)) r 8)))) (fun zu => [(h0, zoMd mS mQ gK gV gH mL mo gM mch mA mP gI gR gT gF gS gE gC mB ml (nI r)), (gK, zaI (cT 0) 1100 mk), (gT, zaZ (cT 2) 260 mt), (gE, zaN (cT 0) 260 me), (gC, zaI (cT 0) 2080 cp)]) A) ([.ref h0, .int (nI k)] : List Value).toArray s 0 0 A) (F0 m 109 ls []) := by
                    intro fu
                    induction fu with
                    | zero => intro _ _ _ hm; exact absurd hm (Nat.not_lt_zero _)
                    | succ fu ih_109 =>
                      intro b fr fd hm_109 h5 h6 h7 H locs hP hD hS ls hl
                      refine lv_iload hx hb d_Md_restore_109 (lv_at hl 8 rfl) ?_
                      refine lv_iconst (v := (nI 1)) hx hb d_Md_restore_111 (by decide) ?_
                      refine zn_icmp_lt (tgt := 160) hx hb (a := b) (b := 1) (by omega) (by omega) d_Md_restore_112 (by decide) (fun c_112 => ?_) (fun c_112 => ?_)
                      · have h10 : fr = zimg cp pq la := by cases fd; exact (h7.1.trans (by rw [h7.2, show b = 0 by omega]; rfl)); exact h7
                        have h11 := himg pq (by omega)
                        rw [← hla, ← h10] at h11
                        have h12 := zcho_le mk pq fr r
                        refine lv_iload hx hb d_Md_restore_160 (lv_at hl 4 rfl) ?_
                        refine lv_aload_n hx hb d_Md_restore_162 rfl (lv_at hl 0 rfl) ?_
                        refine lv_iload hx hb d_Md_restore_163 (lv_at hl 5 rfl) ?_
                        refine lv_iload hx hb d_Md_restore_165 (lv_at hl 6 rfl) ?_
                        refine lv_iload_n hx hb d_Md_restore_167 rfl (lv_at hl 2 rfl) ?_
                        refine zw_R (r := .int (nI (zcho mk pq fr r))) (va_runV (As := [.int (nI pq), .int (nI fr), .int (nI r)]) (rest := [.int (nI n)]) ⟨hx, hb, hml, hown, hts⟩ (c_Md_changesOn l dC dI cT h0 mS mQ gK gV gH mL mo gM mch mA mP gI gR gT gF gS gE gC mB ml mz pq fr r mk (by first | omega | assumption) (by first | omega | assumption) (by first | omega | assumption) (by first | omega | assumption) (by first | omega | assumption)) (cwV 3 hts (zgV wd_716 wd_718 wp_19 wd_11 wd_719) rfl rfl rfl (by decide +kernel) ⟨Nat.le_of_ble_eq_true rfl, Nat.le_of_ble_eq_true rfl⟩) ⟨zPreR_blind, va_recv hK hP (ci := 6) (q0 := 0) rfl rfl, zp_R hK hE (zSub (X := [(h0, zoMd mS mQ gK gV gH mL mo gM mch mA mP gI gR gT gF gS gE gC mB ml mz), (gK, zaI (cT 0) 1100 mk), (gT, zaZ (cT 2) 260 mt), (gE, zaN (cT 0) 260 me), (gC, zaI (cT 0) 2080 cp)]) (pl := []) hP [0, 1] rfl)⟩ rfl rfl hl.1 rfl (lv_room (Nat.le_of_ble_eq_true rfl)) d_Md_restore_168 ⟨Nat.le_of_ble_eq_true rfl, Nat.le_of_ble_eq_true rfl⟩) ?_
                        refine zn_iadd hx hb d_Md_restore_171 ?_
                        refine lv_istore (lv' := [(4, .int (nI (n + (zcho mk pq fr r)))), (0, .ref h0), (1, .int (nI k)), (2, .int (nI r)), (3, .int (nI la)), (5, .int (nI pq)), (6, .int (nI fr)), (7, .int (zb fd)), (8, .int (nI b))]) hx hb d_Md_restore_172 hl (by decide) rfl (fun ls hl => ?_)
                        refine lv_iinc (v := (nI (pq + 1))) (lv' := [(5, .int (nI (pq + 1))), (4, .int (nI (n + (zcho mk pq fr r)))), (0, .ref h0), (1, .int (nI k)), (2, .int (nI r)), (3, .int (nI la)), (6, .int (nI fr)), (7, .int (zb fd)), (8, .int (nI b))]) hx hb d_Md_restore_174 hl (k := 5) rfl (nI_1 _) (by decide) rfl (fun ls hl => ?_)
                        refine lv_goto (tgt := 85) hx hb d_Md_restore_177 (by decide) ?_
                        exact ih_85 (pq + 1) (n + (zcho mk pq fr r)) (by omega) (by first | omega | assumption) (by rw [h14, h10, hla]; rfl) H locs (hP.sub [0, 1, 2, 3, 4] rfl) (hD.sub [0, 1, 2, 3, 4] (by decide) rfl) hS ls (lv_sub hl [2, 3, 4, 5, 1, 0] rfl)
                      · refine lv_iload hx hb d_Md_restore_115 (lv_at hl 7 rfl) ?_
                        refine zb_if_ne (tgt := 160) hx hb d_Md_restore_117 (by decide) (fun c_117 => ?_) (fun c_117 => ?_)
                        · have h10 : fr = zimg cp pq la := by rw [c_117, if_pos rfl] at h7; exact h7
                          have h11 := himg pq (by omega)
                          rw [← hla, ← h10] at h11
                          have h12 := zcho_le mk pq fr r
                          refine lv_iload hx hb d_Md_restore_160 (lv_at hl 4 rfl) ?_
                          refine lv_aload_n hx hb d_Md_restore_162 rfl (lv_at hl 0 rfl) ?_
                          refine lv_iload hx hb d_Md_restore_163 (lv_at hl 5 rfl) ?_
                          refine lv_iload hx hb d_Md_restore_165 (lv_at hl 6 rfl) ?_
                          refine lv_iload_n hx hb d_Md_restore_167 rfl (lv_at hl 2 rfl) ?_
                          refine zw_R (r := .int (nI (zcho mk pq fr r))) (va_runV (As := [.int (nI pq), .int (nI fr), .int (nI r)]) (rest := [.int (nI n)]) ⟨hx, hb, hml, hown, hts⟩ (c_Md_changesOn l dC dI cT h0 mS mQ gK gV gH mL mo gM mch mA mP gI gR gT gF gS gE gC mB ml mz pq fr r mk (by first | omega | assumption) (by first | omega | assumption) (by first | omega | assumption) (by first | omega | assumption) (by first | omega | assumption)) (cwV 3 hts (zgV wd_716 wd_718 wp_19 wd_11 wd_719) rfl rfl rfl (by decide +kernel) ⟨Nat.le_of_ble_eq_true rfl, Nat.le_of_ble_eq_true rfl⟩) ⟨zPreR_blind, va_recv hK hP (ci := 6) (q0 := 0) rfl rfl, zp_R hK hE (zSub (X := [(h0, zoMd mS mQ gK gV gH mL mo gM mch mA mP gI gR gT gF gS gE gC mB ml mz), (gK, zaI (cT 0) 1100 mk), (gT, zaZ (cT 2) 260 mt), (gE, zaN (cT 0) 260 me), (gC, zaI (cT 0) 2080 cp)]) (pl := []) hP [0, 1] rfl)⟩ rfl rfl hl.1 rfl (lv_room (Nat.le_of_ble_eq_true rfl)) d_Md_restore_168 ⟨Nat.le_of_ble_eq_true rfl, Nat.le_of_ble_eq_true rfl⟩) ?_
                          refine zn_iadd hx hb d_Md_restore_171 ?_
                          refine lv_istore (lv' := [(4, .int (nI (n + (zcho mk pq fr r)))), (0, .ref h0), (1, .int (nI k)), (2, .int (nI r)), (3, .int (nI la)), (5, .int (nI pq)), (6, .int (nI fr)), (7, .int (zb fd)), (8, .int (nI b))]) hx hb d_Md_restore_172 hl (by decide) rfl (fun ls hl => ?_)
                          refine lv_iinc (v := (nI (pq + 1))) (lv' := [(5, .int (nI (pq + 1))), (4, .int (nI (n + (zcho mk pq fr r)))), (0, .ref h0), (1, .int (nI k)), (2, .int (nI r)), (3, .int (nI la)), (6, .int (nI fr)), (7, .int (zb fd)), (8, .int (nI b))]) hx hb d_Md_restore_174 hl (k := 5) rfl (nI_1 _) (by decide) rfl (fun ls hl => ?_)
                          refine lv_goto (tgt := 85) hx hb d_Md_restore_177 (by decide) ?_
                          exact ih_85 (pq + 1) (n + (zcho mk pq fr r)) (by omega) (by first | omega | assumption) (by rw [h14, h10, hla]; rfl) H locs (hP.sub [0, 1, 2, 3, 4] rfl) (hD.sub [0, 1, 2, 3, 4] (by decide) rfl) hS ls (lv_sub hl [2, 3, 4, 5, 1, 0] rfl)
                        · refine lv_aload_n hx hb d_Md_restore_120 rfl (lv_at hl 0 rfl) ?_
                          refine va_get (D := (dC, dI)) (ci := 6) (v := .ref gC) (C := R_Md) (T := F_Md) (N := 21) hx hb hts i_Md hown hK hP 0 rfl rfl 17 (by decide) (hts _ wd_580) (fun _ h9 => h9) rfl d_Md_restore_121 ?_
                          refine lv_iload hx hb d_Md_restore_124 (lv_at hl 8 rfl) ?_
                          refine lv_bipush (v := (nI 8)) hx hb d_Md_restore_126 (by decide) ?_
                          refine zn_imul hx hb d_Md_restore_128 ?_
                          refine lv_iload hx hb d_Md_restore_129 (lv_at hl 5 rfl) ?_
                          refine zn_iadd hx hb d_Md_restore_131 ?_
                          refine zn_iald hx hb hK hP 4 0 rfl rfl (i := (b * 8) + pq) (by omega) (by omega) d_Md_restore_132 ?_
                          refine lv_if_lt (tgt := 154) hx hb d_Md_restore_133 (by decide) (fun c_133 => ?_) (fun c_133 => ?_)
                          · have hl : lv_has ls 9 [(0, .ref h0), (1, .int (nI k)), (2, .int (nI r)), (3, .int (nI la)), (4, .int (nI n)), (5, .int (nI pq)), (6, .int (nI fr)), (7, .int (zb false)), (8, .int (nI b))] := by rw [c_117] at hl; exact hl
                            refine lv_iinc (v := (nI (b - 1))) (lv' := [(8, .int (nI (b - 1))), (0, .ref h0), (1, .int (nI k)), (2, .int (nI r)), (3, .int (nI la)), (4, .int (nI n)), (5, .int (nI pq)), (6, .int (nI fr)), (7, .int (zb false))]) hx hb d_Md_restore_154 hl (k := 8) rfl (sb_m1 (by omega)) (by decide) rfl (fun ls hl => ?_)
                            refine lv_goto (tgt := 109) hx hb d_Md_restore_157 (by decide) ?_
                            exact ih_109 (b - 1) fr false (by omega) (by first | omega | assumption) (by first | omega | assumption) (by rw [if_neg (by decide)]; rw [c_117, if_neg (by decide)] at h7; exact ⟨h7.1, by rw [h7.2, zimg_pos (by omega), if_neg (fun q => q c_133)]⟩) H locs (hP.sub [0, 1, 2, 3, 4] rfl) (hD.sub [0, 1, 2, 3, 4] (by decide) rfl) hS ls (lv_sub hl [1, 2, 3, 4, 5, 6, 7, 8, 0] rfl)
                          · refine lv_aload_n hx hb d_Md_restore_136 rfl (lv_at hl 0 rfl) ?_
                            refine va_get (D := (dC, dI)) (ci := 6) (v := .ref gC) (C := R_Md) (T := F_Md) (N := 21) hx hb hts i_Md hown hK hP 0 rfl rfl 17 (by decide) (hts _ wd_580) (fun _ h9 => h9) rfl d_Md_restore_137 ?_
                            refine lv_iload hx hb d_Md_restore_140 (lv_at hl 8 rfl) ?_
                            refine lv_bipush (v := (nI 8)) hx hb d_Md_restore_142 (by decide) ?_
                            refine zn_imul hx hb d_Md_restore_144 ?_
                            refine lv_iload hx hb d_Md_restore_145 (lv_at hl 5 rfl) ?_
                            refine zn_iadd hx hb d_Md_restore_147 ?_
                            refine zn_iald hx hb hK hP 4 0 rfl rfl (i := (b * 8) + pq) (by omega) (by omega) d_Md_restore_148 ?_
                            refine lv_istore (lv' := [(6, .int (cp ((b * 8) + pq))), (0, .ref h0), (1, .int (nI k)), (2, .int (nI r)), (3, .int (nI la)), (4, .int (nI n)), (5, .int (nI pq)), (7, .int (zb fd)), (8, .int (nI b))]) hx hb d_Md_restore_149 hl (by decide) rfl (fun ls hl => ?_)
                            refine lv_iconst (v := (nI 1)) hx hb d_Md_restore_151 (by decide) ?_
                            refine lv_istore (lv' := [(7, .int (nI 1)), (6, .int (cp ((b * 8) + pq))), (0, .ref h0), (1, .int (nI k)), (2, .int (nI r)), (3, .int (nI la)), (4, .int (nI n)), (5, .int (nI pq)), (8, .int (nI b))]) hx hb d_Md_restore_152 hl (by decide) rfl (fun ls hl => ?_)
                            obtain ⟨h8, h9⟩ := okc_nn (hcp (b * 8 + pq)) c_133
                            have hl : lv_has ls 9 [(7, .int (nI 1)), (6, .int (nI (kN (cp (b * 8 + pq))))), (0, .ref h0), (1, .int (nI k)), (2, .int (nI r)), (3, .int (nI la)), (4, .int (nI n)), (5, .int (nI pq)), (8, .int (nI b))] := by rw [← h8]; exact hl
                            have hl : lv_has ls 9 [(7, .int (zb true)), (6, .int (nI (kN (cp (b * 8 + pq))))), (0, .ref h0), (1, .int (nI k)), (2, .int (nI r)), (3, .int (nI la)), (4, .int (nI n)), (5, .int (nI pq)), (8, .int (nI b))] := hl
                            refine lv_iinc (v := (nI (b - 1))) (lv' := [(8, .int (nI (b - 1))), (7, .int (zb true)), (6, .int (nI (kN (cp (b * 8 + pq))))), (0, .ref h0), (1, .int (nI k)), (2, .int (nI r)), (3, .int (nI la)), (4, .int (nI n)), (5, .int (nI pq))]) hx hb d_Md_restore_154 hl (k := 8) rfl (sb_m1 (by omega)) (by decide) rfl (fun ls hl => ?_)
                            refine lv_goto (tgt := 109) hx hb d_Md_restore_157 (by decide) ?_
                            exact ih_109 (b - 1) (kN (cp (b * 8 + pq))) true (by omega) (by first | omega | assumption) (by first | omega | assumption) (by rw [if_pos rfl]; rw [c_117, if_neg (by decide)] at h7; rw [h7.2, zimg_pos (by omega), if_pos c_133]) H locs (hP.sub [0, 1, 2, 3, 4] rfl) (hD.sub [0, 1, 2, 3, 4] (by decide) rfl) hS ls (lv_sub hl [3, 4, 5, 6, 7, 8, 2, 1, 0] rfl)
                  exact loop_109 (la + 1) la 0 false (by omega) (by omega) (by omega) (by rw [if_neg (by decide)]; exact ⟨rfl, rfl⟩) H locs (hP.sub [0, 1, 2, 3, 4] rfl) (hD.sub [0, 1, 2, 3, 4] (by decide) rfl) hS ls (lv_sub hl [3, 4, 5, 6, 7, 8, 2, 1, 0] rfl)
                · refine lv_iconst (v := (nI 1)) hx hb d_Md_restore_99 (by decide) ?_
                  refine lv_goto (tgt := 104) hx hb d_Md_restore_100 (by decide) ?_
                  refine W.eq (g2 := F0 m 104 ls [.int (zb true)]) rfl ?_
                  refine lv_istore (lv' := [(7, .int (zb true)), (6, .int (nI 0)), (0, .ref h0), (1, .int (nI k)), (2, .int (nI r)), (3, .int (nI la)), (4, .int (nI n)), (5, .int (nI pq))]) hx hb d_Md_restore_104 hl (by decide) rfl (fun ls hl => ?_)
                  refine lv_iload_n hx hb d_Md_restore_106 rfl (lv_at hl 5 rfl) ?_
                  refine lv_istore (lv' := [(8, .int (nI la)), (7, .int (zb true)), (6, .int (nI 0)), (0, .ref h0), (1, .int (nI k)), (2, .int (nI r)), (3, .int (nI la)), (4, .int (nI n)), (5, .int (nI pq))]) hx hb d_Md_restore_107 hl (by decide) rfl (fun ls hl => ?_)
                  have loop_109 : ∀ (fu : Nat) (b : Nat) (fr : Nat) (fd : Bool), b < fu → (b ≤ la) → (fr ≤ 1000) → (if fd = true then fr = zimg cp pq la else fr = 0 ∧ zimg cp pq la = zimg cp pq b) → ∀ (H : Heap) (locs : List Loc), va_P (dC, dI) vwCl ([(h0, zoMd mS mQ gK gV gH mL mo gM mch mA mP gI gR gT gF gS gE gC mB ml mz), (gK, zaI (cT 0) 1100 mk), (gT, zaZ (cT 2) 260 mt), (gE, zaN (cT 0) 260 me), (gC, zaI (cT 0) 2080 cp)]) H → va_D A ([(h0, zoMd mS mQ gK gV gH mL mo gM mch mA mP gI gR gT gF gS gE gC mB ml mz), (gK, zaI (cT 0) 1100 mk), (gT, zaZ (cT 2) 260 mt), (gE, zaN (cT 0) 260 me), (gC, zaI (cT 0) 2080 cp)]) → va_S A s.heap H locs → ∀ (ls : Array Slot), lv_has ls 9 [(0, .ref h0), (1, .int (nI k)), (2, .int (nI r)), (3, .int (nI la)), (4, .int (nI n)), (5, .int (nI pq)), (6, .int (nI fr)), (7, .int (zb fd)), (8, .int (nI b))] → W p l e (headSpec w_Md_restore ({ frames := 1, cells := 0, slots := 0, locals := 25 } : Room)).room s m ([.ref h0, .int (nI k)] : List Value).toArray below meth c H locs 0 0 (MQ below (zQ (dC, dI) vwCl (S := Unit) (fun zu => True) (fun zu => some (.int (nI (zsum mk (fun p => zimg cp p (zlst mt me r mB)) r 8)))) (fun zu => [(h0, zoMd mS mQ gK gV gH mL mo gM mch mA mP gI gR gT gF gS gE gC mB ml (nI r)), (gK, zaI (cT 0) 1100 mk), (gT, zaZ (cT 2) 260 mt), (gE, zaN (cT 0) 260 me), (gC, zaI (cT 0) 2080 cp)]) A) ([.ref h0, .int (nI k)] : List Value).toArray s 0 0 A) (F0 m 109 ls []) := by
                    intro fu
                    induction fu with
                    | zero => intro _ _ _ hm; exact absurd hm (Nat.not_lt_zero _)
                    | succ fu ih_109 =>
                      intro b fr fd hm_109 h5 h6 h7 H locs hP hD hS ls hl
                      refine lv_iload hx hb d_Md_restore_109 (lv_at hl 8 rfl) ?_
                      refine lv_iconst (v := (nI 1)) hx hb d_Md_restore_111 (by decide) ?_
                      refine zn_icmp_lt (tgt := 160) hx hb (a := b) (b := 1) (by omega) (by omega) d_Md_restore_112 (by decide) (fun c_112 => ?_) (fun c_112 => ?_)
                      · have h10 : fr = zimg cp pq la := by cases fd; exact (h7.1.trans (by rw [h7.2, show b = 0 by omega]; rfl)); exact h7
                        have h11 := himg pq (by omega)
                        rw [← hla, ← h10] at h11
                        have h12 := zcho_le mk pq fr r
                        refine lv_iload hx hb d_Md_restore_160 (lv_at hl 4 rfl) ?_
                        refine lv_aload_n hx hb d_Md_restore_162 rfl (lv_at hl 0 rfl) ?_
                        refine lv_iload hx hb d_Md_restore_163 (lv_at hl 5 rfl) ?_
                        refine lv_iload hx hb d_Md_restore_165 (lv_at hl 6 rfl) ?_
                        refine lv_iload_n hx hb d_Md_restore_167 rfl (lv_at hl 2 rfl) ?_
                        refine zw_R (r := .int (nI (zcho mk pq fr r))) (va_runV (As := [.int (nI pq), .int (nI fr), .int (nI r)]) (rest := [.int (nI n)]) ⟨hx, hb, hml, hown, hts⟩ (c_Md_changesOn l dC dI cT h0 mS mQ gK gV gH mL mo gM mch mA mP gI gR gT gF gS gE gC mB ml mz pq fr r mk (by first | omega | assumption) (by first | omega | assumption) (by first | omega | assumption) (by first | omega | assumption) (by first | omega | assumption)) (cwV 3 hts (zgV wd_716 wd_718 wp_19 wd_11 wd_719) rfl rfl rfl (by decide +kernel) ⟨Nat.le_of_ble_eq_true rfl, Nat.le_of_ble_eq_true rfl⟩) ⟨zPreR_blind, va_recv hK hP (ci := 6) (q0 := 0) rfl rfl, zp_R hK hE (zSub (X := [(h0, zoMd mS mQ gK gV gH mL mo gM mch mA mP gI gR gT gF gS gE gC mB ml mz), (gK, zaI (cT 0) 1100 mk), (gT, zaZ (cT 2) 260 mt), (gE, zaN (cT 0) 260 me), (gC, zaI (cT 0) 2080 cp)]) (pl := []) hP [0, 1] rfl)⟩ rfl rfl hl.1 rfl (lv_room (Nat.le_of_ble_eq_true rfl)) d_Md_restore_168 ⟨Nat.le_of_ble_eq_true rfl, Nat.le_of_ble_eq_true rfl⟩) ?_
                        refine zn_iadd hx hb d_Md_restore_171 ?_
                        refine lv_istore (lv' := [(4, .int (nI (n + (zcho mk pq fr r)))), (0, .ref h0), (1, .int (nI k)), (2, .int (nI r)), (3, .int (nI la)), (5, .int (nI pq)), (6, .int (nI fr)), (7, .int (zb fd)), (8, .int (nI b))]) hx hb d_Md_restore_172 hl (by decide) rfl (fun ls hl => ?_)
                        refine lv_iinc (v := (nI (pq + 1))) (lv' := [(5, .int (nI (pq + 1))), (4, .int (nI (n + (zcho mk pq fr r)))), (0, .ref h0), (1, .int (nI k)), (2, .int (nI r)), (3, .int (nI la)), (6, .int (nI fr)), (7, .int (zb fd)), (8, .int (nI b))]) hx hb d_Md_restore_174 hl (k := 5) rfl (nI_1 _) (by decide) rfl (fun ls hl => ?_)
                        refine lv_goto (tgt := 85) hx hb d_Md_restore_177 (by decide) ?_
                        exact ih_85 (pq + 1) (n + (zcho mk pq fr r)) (by omega) (by first | omega | assumption) (by rw [h14, h10, hla]; rfl) H locs (hP.sub [0, 1, 2, 3, 4] rfl) (hD.sub [0, 1, 2, 3, 4] (by decide) rfl) hS ls (lv_sub hl [2, 3, 4, 5, 1, 0] rfl)
                      · refine lv_iload hx hb d_Md_restore_115 (lv_at hl 7 rfl) ?_
                        refine zb_if_ne (tgt := 160) hx hb d_Md_restore_117 (by decide) (fun c_117 => ?_) (fun c_117 => ?_)
                        · have h10 : fr = zimg cp pq la := by rw [c_117, if_pos rfl] at h7; exact h7
                          have h11 := himg pq (by omega)
                          rw [← hla, ← h10] at h11
                          have h12 := zcho_le mk pq fr r
                          refine lv_iload hx hb d_Md_restore_160 (lv_at hl 4 rfl) ?_
                          refine lv_aload_n hx hb d_Md_restore_162 rfl (lv_at hl 0 rfl) ?_
                          refine lv_iload hx hb d_Md_restore_163 (lv_at hl 5 rfl) ?_
                          refine lv_iload hx hb d_Md_restore_165 (lv_at hl 6 rfl) ?_
                          refine lv_iload_n hx hb d_Md_restore_167 rfl (lv_at hl 2 rfl) ?_
                          refine zw_R (r := .int (nI (zcho mk pq fr r))) (va_runV (As := [.int (nI pq), .int (nI fr), .int (nI r)]) (rest := [.int (nI n)]) ⟨hx, hb, hml, hown, hts⟩ (c_Md_changesOn l dC dI cT h0 mS mQ gK gV gH mL mo gM mch mA mP gI gR gT gF gS gE gC mB ml mz pq fr r mk (by first | omega | assumption) (by first | omega | assumption) (by first | omega | assumption) (by first | omega | assumption) (by first | omega | assumption)) (cwV 3 hts (zgV wd_716 wd_718 wp_19 wd_11 wd_719) rfl rfl rfl (by decide +kernel) ⟨Nat.le_of_ble_eq_true rfl, Nat.le_of_ble_eq_true rfl⟩) ⟨zPreR_blind, va_recv hK hP (ci := 6) (q0 := 0) rfl rfl, zp_R hK hE (zSub (X := [(h0, zoMd mS mQ gK gV gH mL mo gM mch mA mP gI gR gT gF gS gE gC mB ml mz), (gK, zaI (cT 0) 1100 mk), (gT, zaZ (cT 2) 260 mt), (gE, zaN (cT 0) 260 me), (gC, zaI (cT 0) 2080 cp)]) (pl := []) hP [0, 1] rfl)⟩ rfl rfl hl.1 rfl (lv_room (Nat.le_of_ble_eq_true rfl)) d_Md_restore_168 ⟨Nat.le_of_ble_eq_true rfl, Nat.le_of_ble_eq_true rfl⟩) ?_
                          refine zn_iadd hx hb d_Md_restore_171 ?_
                          refine lv_istore (lv' := [(4, .int (nI (n + (zcho mk pq fr r)))), (0, .ref h0), (1, .int (nI k)), (2, .int (nI r)), (3, .int (nI la)), (5, .int (nI pq)), (6, .int (nI fr)), (7, .int (zb fd)), (8, .int (nI b))]) hx hb d_Md_restore_172 hl (by decide) rfl (fun ls hl => ?_)
                          refine lv_iinc (v := (nI (pq + 1))) (lv' := [(5, .int (nI (pq + 1))), (4, .int (nI (n + (zcho mk pq fr r)))), (0, .ref h0), (1, .int (nI k)), (2, .int (nI r)), (3, .int (nI la)), (6, .int (nI fr)), (7, .int (zb fd)), (8, .int (nI b))]) hx hb d_Md_restore_174 hl (k := 5) rfl (nI_1 _) (by decide) rfl (fun ls hl => ?_)
                          refine lv_goto (tgt := 85) hx hb d_Md_restore_177 (by decide) ?_
                          exact ih_85 (pq + 1) (n + (zcho mk pq fr r)) (by omega) (by first | omega | assumption) (by rw [h14, h10, hla]; rfl) H locs (hP.sub [0, 1, 2, 3, 4] rfl) (hD.sub [0, 1, 2, 3, 4] (by decide) rfl) hS ls (lv_sub hl [2, 3, 4, 5, 1, 0] rfl)
                        · refine lv_aload_n hx hb d_Md_restore_120 rfl (lv_at hl 0 rfl) ?_
                          refine va_get (D := (dC, dI)) (ci := 6) (v := .ref gC) (C := R_Md) (T := F_Md) (N := 21) hx hb hts i_Md hown hK hP 0 rfl rfl 17 (by decide) (hts _ wd_580) (fun _ h9 => h9) rfl d_Md_restore_121 ?_
                          refine lv_iload hx hb d_Md_restore_124 (lv_at hl 8 rfl) ?_
                          refine lv_bipush (v := (nI 8)) hx hb d_Md_restore_126 (by decide) ?_
                          refine zn_imul hx hb d_Md_restore_128 ?_
                          refine lv_iload hx hb d_Md_restore_129 (lv_at hl 5 rfl) ?_
                          refine zn_iadd hx hb d_Md_restore_131 ?_
                          refine zn_iald hx hb hK hP 4 0 rfl rfl (i := (b * 8) + pq) (by omega) (by omega) d_Md_restore_132 ?_
                          refine lv_if_lt (tgt := 154) hx hb d_Md_restore_133 (by decide) (fun c_133 => ?_) (fun c_133 => ?_)
                          · have hl : lv_has ls 9 [(0, .ref h0), (1, .int (nI k)), (2, .int (nI r)), (3, .int (nI la)), (4, .int (nI n)), (5, .int (nI pq)), (6, .int (nI fr)), (7, .int (zb false)), (8, .int (nI b))] := by rw [c_117] at hl; exact hl
                            refine lv_iinc (v := (nI (b - 1))) (lv' := [(8, .int (nI (b - 1))), (0, .ref h0), (1, .int (nI k)), (2, .int (nI r)), (3, .int (nI la)), (4, .int (nI n)), (5, .int (nI pq)), (6, .int (nI fr)), (7, .int (zb false))]) hx hb d_Md_restore_154 hl (k := 8) rfl (sb_m1 (by omega)) (by decide) rfl (fun ls hl => ?_)
                            refine lv_goto (tgt := 109) hx hb d_Md_restore_157 (by decide) ?_
                            exact ih_109 (b - 1) fr false (by omega) (by first | omega | assumption) (by first | omega | assumption) (by rw [if_neg (by decide)]; rw [c_117, if_neg (by decide)] at h7; exact ⟨h7.1, by rw [h7.2, zimg_pos (by omega), if_neg (fun q => q c_133)]⟩) H locs (hP.sub [0, 1, 2, 3, 4] rfl) (hD.sub [0, 1, 2, 3, 4] (by decide) rfl) hS ls (lv_sub hl [1, 2, 3, 4, 5, 6, 7, 8, 0] rfl)
                          · refine lv_aload_n hx hb d_Md_restore_136 rfl (lv_at hl 0 rfl) ?_
                            refine va_get (D := (dC, dI)) (ci := 6) (v := .ref gC) (C := R_Md) (T := F_Md) (N := 21) hx hb hts i_Md hown hK hP 0 rfl rfl 17 (by decide) (hts _ wd_580) (fun _ h9 => h9) rfl d_Md_restore_137 ?_
                            refine lv_iload hx hb d_Md_restore_140 (lv_at hl 8 rfl) ?_
                            refine lv_bipush (v := (nI 8)) hx hb d_Md_restore_142 (by decide) ?_
                            refine zn_imul hx hb d_Md_restore_144 ?_
                            refine lv_iload hx hb d_Md_restore_145 (lv_at hl 5 rfl) ?_
                            refine zn_iadd hx hb d_Md_restore_147 ?_
                            refine zn_iald hx hb hK hP 4 0 rfl rfl (i := (b * 8) + pq) (by omega) (by omega) d_Md_restore_148 ?_
                            refine lv_istore (lv' := [(6, .int (cp ((b * 8) + pq))), (0, .ref h0), (1, .int (nI k)), (2, .int (nI r)), (3, .int (nI la)), (4, .int (nI n)), (5, .int (nI pq)), (7, .int (zb fd)), (8, .int (nI b))]) hx hb d_Md_restore_149 hl (by decide) rfl (fun ls hl => ?_)
                            refine lv_iconst (v := (nI 1)) hx hb d_Md_restore_151 (by decide) ?_
                            refine lv_istore (lv' := [(7, .int (nI 1)), (6, .int (cp ((b * 8) + pq))), (0, .ref h0), (1, .int (nI k)), (2, .int (nI r)), (3, .int (nI la)), (4, .int (nI n)), (5, .int (nI pq)), (8, .int (nI b))]) hx hb d_Md_restore_152 hl (by decide) rfl (fun ls hl => ?_)
                            obtain ⟨h8, h9⟩ := okc_nn (hcp (b * 8 + pq)) c_133
                            have hl : lv_has ls 9 [(7, .int (nI 1)), (6, .int (nI (kN (cp (b * 8 + pq))))), (0, .ref h0), (1, .int (nI k)), (2, .int (nI r)), (3, .int (nI la)), (4, .int (nI n)), (5, .int (nI pq)), (8, .int (nI b))] := by rw [← h8]; exact hl
                            have hl : lv_has ls 9 [(7, .int (zb true)), (6, .int (nI (kN (cp (b * 8 + pq))))), (0, .ref h0), (1, .int (nI k)), (2, .int (nI r)), (3, .int (nI la)), (4, .int (nI n)), (5, .int (nI pq)), (8, .int (nI b))] := hl
                            refine lv_iinc (v := (nI (b - 1))) (lv' := [(8, .int (nI (b - 1))), (7, .int (zb true)), (6, .int (nI (kN (cp (b * 8 + pq))))), (0, .ref h0), (1, .int (nI k)), (2, .int (nI r)), (3, .int (nI la)), (4, .int (nI n)), (5, .int (nI pq))]) hx hb d_Md_restore_154 hl (k := 8) rfl (sb_m1 (by omega)) (by decide) rfl (fun ls hl => ?_)
                            refine lv_goto (tgt := 109) hx hb d_Md_restore_157 (by decide) ?_
                            exact ih_109 (b - 1) (kN (cp (b * 8 + pq))) true (by omega) (by first | omega | assumption) (by first | omega | assumption) (by rw [if_pos rfl]; rw [c_117, if_neg (by decide)] at h7; rw [h7.2, zimg_pos (by omega), if_pos c_133]) H locs (hP.sub [0, 1, 2, 3, 4] rfl) (hD.sub [0, 1, 2, 3, 4] (by decide) rfl) hS ls (lv_sub hl [3, 4, 5, 6, 7, 8, 2, 1, 0] rfl)
                  exact loop_109 (la + 1) la 0 true (by omega) (by omega) (by omega) (by rw [if_pos rfl, c_96]; rfl) H locs (hP.sub [0, 1, 2, 3, 4] rfl) (hD.sub [0, 1, 2, 3, 4] (by decide) rfl) hS ls (lv_sub hl [3, 4, 5, 6, 7, 8, 2, 1, 0] rfl)
          exact loop_85 (8 - 0 + 1) 0 0 (by omega) (by first | omega | assumption) rfl H locs (hP.sub [0, 1, 2, 3, 4] rfl) (hD.sub [0, 1, 2, 3, 4] (by decide) rfl) hS ls (lv_sub hl [2, 3, 4, 5, 1, 0] rfl)
        · refine lv_aload_n hx hb d_Md_restore_69 rfl (lv_at hl 0 rfl) ?_
          refine va_get (D := (dC, dI)) (ci := 6) (v := .int (nI mP)) (C := R_Md) (T := F_Md) (N := 21) hx hb hts i_Md hown hK hP 0 rfl rfl 10 (by decide) (hts _ wd_573) (fun _ h9 => h9) rfl d_Md_restore_70 ?_
          refine zn_if_le (tgt := 79) hx hb (a := mP) (by omega) d_Md_restore_73 (by decide) (fun c_73 => ?_) (fun c_73 => ?_)
          · refine lv_iconst (v := (nI 0)) hx hb d_Md_restore_79 (by decide) ?_
            refine lv_istore (lv' := [(4, .int (nI 0)), (0, .ref h0), (1, .int (nI k)), (2, .int (nI r)), (3, .int (nI la))]) hx hb d_Md_restore_80 hl (by decide) rfl (fun ls hl => ?_)
            refine lv_iconst (v := (nI 0)) hx hb d_Md_restore_82 (by decide) ?_
            refine lv_istore (lv' := [(5, .int (nI 0)), (4, .int (nI 0)), (0, .ref h0), (1, .int (nI k)), (2, .int (nI r)), (3, .int (nI la))]) hx hb d_Md_restore_83 hl (by decide) rfl (fun ls hl => ?_)
            have loop_85 : ∀ (fu : Nat) (pq : Nat) (n : Nat), 8 - pq < fu → (pq ≤ 8) → (n = zsum mk (fun p => zimg cp p (zlst mt me r mB)) r pq) → ∀ (H : Heap) (locs : List Loc), va_P (dC, dI) vwCl ([(h0, zoMd mS mQ gK gV gH mL mo gM mch mA mP gI gR gT gF gS gE gC mB ml mz), (gK, zaI (cT 0) 1100 mk), (gT, zaZ (cT 2) 260 mt), (gE, zaN (cT 0) 260 me), (gC, zaI (cT 0) 2080 cp)]) H → va_D A ([(h0, zoMd mS mQ gK gV gH mL mo gM mch mA mP gI gR gT gF gS gE gC mB ml mz), (gK, zaI (cT 0) 1100 mk), (gT, zaZ (cT 2) 260 mt), (gE, zaN (cT 0) 260 me), (gC, zaI (cT 0) 2080 cp)]) → va_S A s.heap H locs → ∀ (ls : Array Slot), lv_has ls 9 [(0, .ref h0), (1, .int (nI k)), (2, .int (nI r)), (3, .int (nI la)), (4, .int (nI n)), (5, .int (nI pq))] → W p l e (headSpec w_Md_restore ({ frames := 1, cells := 0, slots := 0, locals := 25 } : Room)).room s m ([.ref h0, .int (nI k)] : List Value).toArray below meth c H locs 0 0 (MQ below (zQ (dC, dI) vwCl (S := Unit) (fun zu => True) (fun zu => some (.int (nI (zsum mk (fun p => zimg cp p (zlst mt me r mB)) r 8)))) (fun zu => [(h0, zoMd mS mQ gK gV gH mL mo gM mch mA mP gI gR gT gF gS gE gC mB ml (nI r)), (gK, zaI (cT 0) 1100 mk), (gT, zaZ (cT 2) 260 mt), (gE, zaN (cT 0) 260 me), (gC, zaI (cT 0) 2080 cp)]) A) ([.ref h0, .int (nI k)] : List Value).toArray s 0 0 A) (F0 m 85 ls []) := by
              intro fu
              induction fu with
              | zero => intro _ _ hm; exact absurd hm (Nat.not_lt_zero _)
              | succ fu ih_85 =>
                intro pq n hm_85 h13 h14 H locs hP hD hS ls hl
                refine lv_iload hx hb d_Md_restore_85 (lv_at hl 5 rfl) ?_
                have hz1 := zsum_le mk (fun p => zimg cp p (zlst mt me r mB)) r pq
                have hz2 : pq * r ≤ 8 * r := Nat.mul_le_mul_right _ h13
                refine lv_bipush (v := (nI 8)) hx hb d_Md_restore_87 (by decide) ?_
                refine zn_icmp_ge (tgt := 180) hx hb (a := pq) (b := 8) (by omega) (by omega) d_Md_restore_89 (by decide) (fun c_89 => ?_) (fun c_89 => ?_)
                · refine lv_aload_n hx hb d_Md_restore_180 rfl (lv_at hl 0 rfl) ?_
                  refine lv_iload_n hx hb d_Md_restore_181 rfl (lv_at hl 2 rfl) ?_
                  refine va_put (D := (dC, dI)) (ci := 6) (v := .int (nI r)) (ty := .int) (C := R_Md) (T := F_Md) (N := 21) hx hb hts i_Md t_Md t_Md_ok n_Md hown hK hP hD hS 0 rfl rfl 20 (by decide) (hts _ wd_583) (fun _ h9 => h9) rfl (by decide +kernel) rfl rfl (Nat.le_of_ble_eq_true rfl) d_Md_restore_182 (fun H locs hP hD hS => ?_)
                  have hP : va_P (dC, dI) vwCl ([(h0, zoMd mS mQ gK gV gH mL mo gM mch mA mP gI gR gT gF gS gE gC mB ml (nI r)), (gK, zaI (cT 0) 1100 mk), (gT, zaZ (cT 2) 260 mt), (gE, zaN (cT 0) 260 me), (gC, zaI (cT 0) 2080 cp)]) H := hP
                  have hD : va_D A ([(h0, zoMd mS mQ gK gV gH mL mo gM mch mA mP gI gR gT gF gS gE gC mB ml (nI r)), (gK, zaI (cT 0) 1100 mk), (gT, zaZ (cT 2) 260 mt), (gE, zaN (cT 0) 260 me), (gC, zaI (cT 0) 2080 cp)]) := hD
                  refine lv_iload hx hb d_Md_restore_185 (lv_at hl 4 rfl) ?_
                  have hP9 := hP.sub (ws' := [(h0, zoMd mS mQ gK gV gH mL mo gM mch mA mP gI gR gT gF gS gE gC mB ml (nI r)), (gK, zaI (cT 0) 1100 mk), (gT, zaZ (cT 2) 260 mt), (gE, zaN (cT 0) 260 me), (gC, zaI (cT 0) 2080 cp)]) [0, 1, 2, 3, 4] rfl
                  have hD9 := hD.sub (ws' := [(h0, zoMd mS mQ gK gV gH mL mo gM mch mA mP gI gR gT gF gS gE gC mB ml (nI r)), (gK, zaI (cT 0) 1100 mk), (gT, zaZ (cT 2) 260 mt), (gE, zaN (cT 0) 260 me), (gC, zaI (cT 0) 2080 cp)]) [0, 1, 2, 3, 4] (by decide) rfl
                  exact W.iret hx hb hr (fun t ht hW => ⟨⟨(), trivial, by rw [h14, show pq = 8 by omega], by rw [ht]; exact hP9, hD9⟩, hS.F ht⟩) hS.2.2 d_Md_restore_187
                · refine lv_iconst (v := (nI 0)) hx hb d_Md_restore_92 (by decide) ?_
                  refine lv_istore (lv' := [(6, .int (nI 0)), (0, .ref h0), (1, .int (nI k)), (2, .int (nI r)), (3, .int (nI la)), (4, .int (nI n)), (5, .int (nI pq))]) hx hb d_Md_restore_93 hl (by decide) rfl (fun ls hl => ?_)
                  refine lv_iload_n hx hb d_Md_restore_95 rfl (lv_at hl 4 rfl) ?_
                  refine zn_if_ne (tgt := 103) hx hb (a := la) (by omega) d_Md_restore_96 (by decide) (fun c_96 => ?_) (fun c_96 => ?_)
                  · refine lv_iconst (v := (nI 0)) hx hb d_Md_restore_103 (by decide) ?_
                    refine W.eq (g2 := F0 m 104 ls [.int (zb false)]) rfl ?_
                    refine lv_istore (lv' := [(7, .int (zb false)), (6, .int (nI 0)), (0, .ref h0), (1, .int (nI k)), (2, .int (nI r)), (3, .int (nI la)), (4, .int (nI n)), (5, .int (nI pq))]) hx hb d_Md_restore_104 hl (by decide) rfl (fun ls hl => ?_)
                    refine lv_iload_n hx hb d_Md_restore_106 rfl (lv_at hl 5 rfl) ?_
                    refine lv_istore (lv' := [(8, .int (nI la)), (7, .int (zb false)), (6, .int (nI 0)), (0, .ref h0), (1, .int (nI k)), (2, .int (nI r)), (3, .int (nI la)), (4, .int (nI n)), (5, .int (nI pq))]) hx hb d_Md_restore_107 hl (by decide) rfl (fun ls hl => ?_)
                    have loop_109 : ∀ (fu : Nat) (b : Nat) (fr : Nat) (fd : Bool), b < fu → (b ≤ la) → (fr ≤ 1000) → (if fd = true then fr = zimg cp pq la else fr = 0 ∧ zimg cp pq la = zimg cp pq b) → ∀ (H : Heap) (locs : List Loc), va_P (dC, dI) vwCl ([(h0, zoMd mS mQ gK gV gH mL mo gM mch mA mP gI gR gT gF gS gE gC mB ml mz), (gK, zaI (cT 0) 1100 mk), (gT, zaZ (cT 2) 260 mt), (gE, zaN (cT 0) 260 me), (gC, zaI (cT 0) 2080 cp)]) H → va_D A ([(h0, zoMd mS mQ gK gV gH mL mo gM mch mA mP gI gR gT gF gS gE gC mB ml mz), (gK, zaI (cT 0) 1100 mk), (gT, zaZ (cT 2) 260 mt), (gE, zaN (cT 0) 260 me), (gC, zaI (cT 0) 2080 cp)]) → va_S A s.heap H locs → ∀ (ls : Array Slot), lv_has ls 9 [(0, .ref h0), (1, .int (nI k)), (2, .int (nI r)), (3, .int (nI la)), (4, .int (nI n)), (5, .int (nI pq)), (6, .int (nI fr)), (7, .int (zb fd)), (8, .int (nI b))] → W p l e (headSpec w_Md_restore ({ frames := 1, cells := 0, slots := 0, locals := 25 } : Room)).room s m ([.ref h0, .int (nI k)] : List Value).toArray below meth c H locs 0 0 (MQ below (zQ (dC, dI) vwCl (S := Unit) (fun zu => True) (fun zu => some (.int (nI (zsum mk (fun p => zimg cp p (zlst mt me r mB)) r 8)))) (fun zu => [(h0, zoMd mS mQ gK gV gH mL mo gM mch mA mP gI gR gT gF gS gE gC mB ml (nI r)), (gK, zaI (cT 0) 1100 mk), (gT, zaZ (cT 2) 260 mt), (gE, zaN (cT 0) 260 me), (gC, zaI (cT 0) 2080 cp)]) A) ([.ref h0, .int (nI k)] : List Value).toArray s 0 0 A) (F0 m 109 ls []) := by
                      intro fu
                      induction fu with
                      | zero => intro _ _ _ hm; exact absurd hm (Nat.not_lt_zero _)
                      | succ fu ih_109 =>
                        intro b fr fd hm_109 h5 h6 h7 H locs hP hD hS ls hl
                        refine lv_iload hx hb d_Md_restore_109 (lv_at hl 8 rfl) ?_
                        refine lv_iconst (v := (nI 1)) hx hb d_Md_restore_111 (by decide) ?_
                        refine zn_icmp_lt (tgt := 160) hx hb (a := b) (b := 1) (by omega) (by omega) d_Md_restore_112 (by decide) (fun c_112 => ?_) (fun c_112 => ?_)
                        · have h10 : fr = zimg cp pq la := by cases fd; exact (h7.1.trans (by rw [h7.2, show b = 0 by omega]; rfl)); exact h7
                          have h11 := himg pq (by omega)
                          rw [← hla, ← h10] at h11
                          have h12 := zcho_le mk pq fr r
                          refine lv_iload hx hb d_Md_restore_160 (lv_at hl 4 rfl) ?_
                          refine lv_aload_n hx hb d_Md_restore_162 rfl (lv_at hl 0 rfl) ?_
                          refine lv_iload hx hb d_Md_restore_163 (lv_at hl 5 rfl) ?_
                          refine lv_iload hx hb d_Md_restore_165 (lv_at hl 6 rfl) ?_
                          refine lv_iload_n hx hb d_Md_restore_167 rfl (lv_at hl 2 rfl) ?_
                          refine zw_R (r := .int (nI (zcho mk pq fr r))) (va_runV (As := [.int (nI pq), .int (nI fr), .int (nI r)]) (rest := [.int (nI n)]) ⟨hx, hb, hml, hown, hts⟩ (c_Md_changesOn l dC dI cT h0 mS mQ gK gV gH mL mo gM mch mA mP gI gR gT gF gS gE gC mB ml mz pq fr r mk (by first | omega | assumption) (by first | omega | assumption) (by first | omega | assumption) (by first | omega | assumption) (by first | omega | assumption)) (cwV 3 hts (zgV wd_716 wd_718 wp_19 wd_11 wd_719) rfl rfl rfl (by decide +kernel) ⟨Nat.le_of_ble_eq_true rfl, Nat.le_of_ble_eq_true rfl⟩) ⟨zPreR_blind, va_recv hK hP (ci := 6) (q0 := 0) rfl rfl, zp_R hK hE (zSub (X := [(h0, zoMd mS mQ gK gV gH mL mo gM mch mA mP gI gR gT gF gS gE gC mB ml mz), (gK, zaI (cT 0) 1100 mk), (gT, zaZ (cT 2) 260 mt), (gE, zaN (cT 0) 260 me), (gC, zaI (cT 0) 2080 cp)]) (pl := []) hP [0, 1] rfl)⟩ rfl rfl hl.1 rfl (lv_room (Nat.le_of_ble_eq_true rfl)) d_Md_restore_168 ⟨Nat.le_of_ble_eq_true rfl, Nat.le_of_ble_eq_true rfl⟩) ?_
                          refine zn_iadd hx hb d_Md_restore_171 ?_
                          refine lv_istore (lv' := [(4, .int (nI (n + (zcho mk pq fr r)))), (0, .ref h0), (1, .int (nI k)), (2, .int (nI r)), (3, .int (nI la)), (5, .int (nI pq)), (6, .int (nI fr)), (7, .int (zb fd)), (8, .int (nI b))]) hx hb d_Md_restore_172 hl (by decide) rfl (fun ls hl => ?_)
                          refine lv_iinc (v := (nI (pq + 1))) (lv' := [(5, .int (nI (pq + 1))), (4, .int (nI (n + (zcho mk pq fr r)))), (0, .ref h0), (1, .int (nI k)), (2, .int (nI r)), (3, .int (nI la)), (6, .int (nI fr)), (7, .int (zb fd)), (8, .int (nI b))]) hx hb d_Md_restore_174 hl (k := 5) rfl (nI_1 _) (by decide) rfl (fun ls hl => ?_)
                          refine lv_goto (tgt := 85) hx hb d_Md_restore_177 (by decide) ?_
                          exact ih_85 (pq + 1) (n + (zcho mk pq fr r)) (by omega) (by first | omega | assumption) (by rw [h14, h10, hla]; rfl) H locs (hP.sub [0, 1, 2, 3, 4] rfl) (hD.sub [0, 1, 2, 3, 4] (by decide) rfl) hS ls (lv_sub hl [2, 3, 4, 5, 1, 0] rfl)
                        · refine lv_iload hx hb d_Md_restore_115 (lv_at hl 7 rfl) ?_
                          refine zb_if_ne (tgt := 160) hx hb d_Md_restore_117 (by decide) (fun c_117 => ?_) (fun c_117 => ?_)
                          · have h10 : fr = zimg cp pq la := by rw [c_117, if_pos rfl] at h7; exact h7
                            have h11 := himg pq (by omega)
                            rw [← hla, ← h10] at h11
                            have h12 := zcho_le mk pq fr r
                            refine lv_iload hx hb d_Md_restore_160 (lv_at hl 4 rfl) ?_
                            refine lv_aload_n hx hb d_Md_restore_162 rfl (lv_at hl 0 rfl) ?_
                            refine lv_iload hx hb d_Md_restore_163 (lv_at hl 5 rfl) ?_
                            refine lv_iload hx hb d_Md_restore_165 (lv_at hl 6 rfl) ?_
                            refine lv_iload_n hx hb d_Md_restore_167 rfl (lv_at hl 2 rfl) ?_
                            refine zw_R (r := .int (nI (zcho mk pq fr r))) (va_runV (As := [.int (nI pq), .int (nI fr), .int (nI r)]) (rest := [.int (nI n)]) ⟨hx, hb, hml, hown, hts⟩ (c_Md_changesOn l dC dI cT h0 mS mQ gK gV gH mL mo gM mch mA mP gI gR gT gF gS gE gC mB ml mz pq fr r mk (by first | omega | assumption) (by first | omega | assumption) (by first | omega | assumption) (by first | omega | assumption) (by first | omega | assumption)) (cwV 3 hts (zgV wd_716 wd_718 wp_19 wd_11 wd_719) rfl rfl rfl (by decide +kernel) ⟨Nat.le_of_ble_eq_true rfl, Nat.le_of_ble_eq_true rfl⟩) ⟨zPreR_blind, va_recv hK hP (ci := 6) (q0 := 0) rfl rfl, zp_R hK hE (zSub (X := [(h0, zoMd mS mQ gK gV gH mL mo gM mch mA mP gI gR gT gF gS gE gC mB ml mz), (gK, zaI (cT 0) 1100 mk), (gT, zaZ (cT 2) 260 mt), (gE, zaN (cT 0) 260 me), (gC, zaI (cT 0) 2080 cp)]) (pl := []) hP [0, 1] rfl)⟩ rfl rfl hl.1 rfl (lv_room (Nat.le_of_ble_eq_true rfl)) d_Md_restore_168 ⟨Nat.le_of_ble_eq_true rfl, Nat.le_of_ble_eq_true rfl⟩) ?_
                            refine zn_iadd hx hb d_Md_restore_171 ?_
                            refine lv_istore (lv' := [(4, .int (nI (n + (zcho mk pq fr r)))), (0, .ref h0), (1, .int (nI k)), (2, .int (nI r)), (3, .int (nI la)), (5, .int (nI pq)), (6, .int (nI fr)), (7, .int (zb fd)), (8, .int (nI b))]) hx hb d_Md_restore_172 hl (by decide) rfl (fun ls hl => ?_)
                            refine lv_iinc (v := (nI (pq + 1))) (lv' := [(5, .int (nI (pq + 1))), (4, .int (nI (n + (zcho mk pq fr r)))), (0, .ref h0), (1, .int (nI k)), (2, .int (nI r)), (3, .int (nI la)), (6, .int (nI fr)), (7, .int (zb fd)), (8, .int (nI b))]) hx hb d_Md_restore_174 hl (k := 5) rfl (nI_1 _) (by decide) rfl (fun ls hl => ?_)
                            refine lv_goto (tgt := 85) hx hb d_Md_restore_177 (by decide) ?_
                            exact ih_85 (pq + 1) (n + (zcho mk pq fr r)) (by omega) (by first | omega | assumption) (by rw [h14, h10, hla]; rfl) H locs (hP.sub [0, 1, 2, 3, 4] rfl) (hD.sub [0, 1, 2, 3, 4] (by decide) rfl) hS ls (lv_sub hl [2, 3, 4, 5, 1, 0] rfl)
                          · refine lv_aload_n hx hb d_Md_restore_120 rfl (lv_at hl 0 rfl) ?_
                            refine va_get (D := (dC, dI)) (ci := 6) (v := .ref gC) (C := R_Md) (T := F_Md) (N := 21) hx hb hts i_Md hown hK hP 0 rfl rfl 17 (by decide) (hts _ wd_580) (fun _ h9 => h9) rfl d_Md_restore_121 ?_
                            refine lv_iload hx hb d_Md_restore_124 (lv_at hl 8 rfl) ?_
                            refine lv_bipush (v := (nI 8)) hx hb d_Md_restore_126 (by decide) ?_
                            refine zn_imul hx hb d_Md_restore_128 ?_
                            refine lv_iload hx hb d_Md_restore_129 (lv_at hl 5 rfl) ?_
                            refine zn_iadd hx hb d_Md_restore_131 ?_
                            refine zn_iald hx hb hK hP 4 0 rfl rfl (i := (b * 8) + pq) (by omega) (by omega) d_Md_restore_132 ?_
                            refine lv_if_lt (tgt := 154) hx hb d_Md_restore_133 (by decide) (fun c_133 => ?_) (fun c_133 => ?_)
                            · have hl : lv_has ls 9 [(0, .ref h0), (1, .int (nI k)), (2, .int (nI r)), (3, .int (nI la)), (4, .int (nI n)), (5, .int (nI pq)), (6, .int (nI fr)), (7, .int (zb false)), (8, .int (nI b))] := by rw [c_117] at hl; exact hl
                              refine lv_iinc (v := (nI (b - 1))) (lv' := [(8, .int (nI (b - 1))), (0, .ref h0), (1, .int (nI k)), (2, .int (nI r)), (3, .int (nI la)), (4, .int (nI n)), (5, .int (nI pq)), (6, .int (nI fr)), (7, .int (zb false))]) hx hb d_Md_restore_154 hl (k := 8) rfl (sb_m1 (by omega)) (by decide) rfl (fun ls hl => ?_)
                              refine lv_goto (tgt := 109) hx hb d_Md_restore_157 (by decide) ?_
                              exact ih_109 (b - 1) fr false (by omega) (by first | omega | assumption) (by first | omega | assumption) (by rw [if_neg (by decide)]; rw [c_117, if_neg (by decide)] at h7; exact ⟨h7.1, by rw [h7.2, zimg_pos (by omega), if_neg (fun q => q c_133)]⟩) H locs (hP.sub [0, 1, 2, 3, 4] rfl) (hD.sub [0, 1, 2, 3, 4] (by decide) rfl) hS ls (lv_sub hl [1, 2, 3, 4, 5, 6, 7, 8, 0] rfl)
                            · refine lv_aload_n hx hb d_Md_restore_136 rfl (lv_at hl 0 rfl) ?_
                              refine va_get (D := (dC, dI)) (ci := 6) (v := .ref gC) (C := R_Md) (T := F_Md) (N := 21) hx hb hts i_Md hown hK hP 0 rfl rfl 17 (by decide) (hts _ wd_580) (fun _ h9 => h9) rfl d_Md_restore_137 ?_
                              refine lv_iload hx hb d_Md_restore_140 (lv_at hl 8 rfl) ?_
                              refine lv_bipush (v := (nI 8)) hx hb d_Md_restore_142 (by decide) ?_
                              refine zn_imul hx hb d_Md_restore_144 ?_
                              refine lv_iload hx hb d_Md_restore_145 (lv_at hl 5 rfl) ?_
                              refine zn_iadd hx hb d_Md_restore_147 ?_
                              refine zn_iald hx hb hK hP 4 0 rfl rfl (i := (b * 8) + pq) (by omega) (by omega) d_Md_restore_148 ?_
                              refine lv_istore (lv' := [(6, .int (cp ((b * 8) + pq))), (0, .ref h0), (1, .int (nI k)), (2, .int (nI r)), (3, .int (nI la)), (4, .int (nI n)), (5, .int (nI pq)), (7, .int (zb fd)), (8, .int (nI b))]) hx hb d_Md_restore_149 hl (by decide) rfl (fun ls hl => ?_)
                              refine lv_iconst (v := (nI 1)) hx hb d_Md_restore_151 (by decide) ?_
                              refine lv_istore (lv' := [(7, .int (nI 1)), (6, .int (cp ((b * 8) + pq))), (0, .ref h0), (1, .int (nI k)), (2, .int (nI r)), (3, .int (nI la)), (4, .int (nI n)), (5, .int (nI pq)), (8, .int (nI b))]) hx hb d_Md_restore_152 hl (by decide) rfl (fun ls hl => ?_)
                              obtain ⟨h8, h9⟩ := okc_nn (hcp (b * 8 + pq)) c_133
                              have hl : lv_has ls 9 [(7, .int (nI 1)), (6, .int (nI (kN (cp (b * 8 + pq))))), (0, .ref h0), (1, .int (nI k)), (2, .int (nI r)), (3, .int (nI la)), (4, .int (nI n)), (5, .int (nI pq)), (8, .int (nI b))] := by rw [← h8]; exact hl
                              have hl : lv_has ls 9 [(7, .int (zb true)), (6, .int (nI (kN (cp (b * 8 + pq))))), (0, .ref h0), (1, .int (nI k)), (2, .int (nI r)), (3, .int (nI la)), (4, .int (nI n)), (5, .int (nI pq)), (8, .int (nI b))] := hl
                              refine lv_iinc (v := (nI (b - 1))) (lv' := [(8, .int (nI (b - 1))), (7, .int (zb true)), (6, .int (nI (kN (cp (b * 8 + pq))))), (0, .ref h0), (1, .int (nI k)), (2, .int (nI r)), (3, .int (nI la)), (4, .int (nI n)), (5, .int (nI pq))]) hx hb d_Md_restore_154 hl (k := 8) rfl (sb_m1 (by omega)) (by decide) rfl (fun ls hl => ?_)
                              refine lv_goto (tgt := 109) hx hb d_Md_restore_157 (by decide) ?_
                              exact ih_109 (b - 1) (kN (cp (b * 8 + pq))) true (by omega) (by first | omega | assumption) (by first | omega | assumption) (by rw [if_pos rfl]; rw [c_117, if_neg (by decide)] at h7; rw [h7.2, zimg_pos (by omega), if_pos c_133]) H locs (hP.sub [0, 1, 2, 3, 4] rfl) (hD.sub [0, 1, 2, 3, 4] (by decide) rfl) hS ls (lv_sub hl [3, 4, 5, 6, 7, 8, 2, 1, 0] rfl)
                    exact loop_109 (la + 1) la 0 false (by omega) (by omega) (by omega) (by rw [if_neg (by decide)]; exact ⟨rfl, rfl⟩) H locs (hP.sub [0, 1, 2, 3, 4] rfl) (hD.sub [0, 1, 2, 3, 4] (by decide) rfl) hS ls (lv_sub hl [3, 4, 5, 6, 7, 8, 2, 1, 0] rfl)
                  · refine lv_iconst (v := (nI 1)) hx hb d_Md_restore_99 (by decide) ?_
                    refine lv_goto (tgt := 104) hx hb d_Md_restore_100 (by decide) ?_
                    refine W.eq (g2 := F0 m 104 ls [.int (zb true)]) rfl ?_
                    refine lv_istore (lv' := [(7, .int (zb true)), (6, .int (nI 0)), (0, .ref h0), (1, .int (nI k)), (2, .int (nI r)), (3, .int (nI la)), (4, .int (nI n)), (5, .int (nI pq))]) hx hb d_Md_restore_104 hl (by decide) rfl (fun ls hl => ?_)
                    refine lv_iload_n hx hb d_Md_restore_106 rfl (lv_at hl 5 rfl) ?_
                    refine lv_istore (lv' := [(8, .int (nI la)), (7, .int (zb true)), (6, .int (nI 0)), (0, .ref h0), (1, .int (nI k)), (2, .int (nI r)), (3, .int (nI la)), (4, .int (nI n)), (5, .int (nI pq))]) hx hb d_Md_restore_107 hl (by decide) rfl (fun ls hl => ?_)
                    have loop_109 : ∀ (fu : Nat) (b : Nat) (fr : Nat) (fd : Bool), b < fu → (b ≤ la) → (fr ≤ 1000) → (if fd = true then fr = zimg cp pq la else fr = 0 ∧ zimg cp pq la = zimg cp pq b) → ∀ (H : Heap) (locs : List Loc), va_P (dC, dI) vwCl ([(h0, zoMd mS mQ gK gV gH mL mo gM mch mA mP gI gR gT gF gS gE gC mB ml mz), (gK, zaI (cT 0) 1100 mk), (gT, zaZ (cT 2) 260 mt), (gE, zaN (cT 0) 260 me), (gC, zaI (cT 0) 2080 cp)]) H → va_D A ([(h0, zoMd mS mQ gK gV gH mL mo gM mch mA mP gI gR gT gF gS gE gC mB ml mz), (gK, zaI (cT 0) 1100 mk), (gT, zaZ (cT 2) 260 mt), (gE, zaN (cT 0) 260 me), (gC, zaI (cT 0) 2080 cp)]) → va_S A s.heap H locs → ∀ (ls : Array Slot), lv_has ls 9 [(0, .ref h0), (1, .int (nI k)), (2, .int (nI r)), (3, .int (nI la)), (4, .int (nI n)), (5, .int (nI pq)), (6, .int (nI fr)), (7, .int (zb fd)), (8, .int (nI b))] → W p l e (headSpec w_Md_restore ({ frames := 1, cells := 0, slots := 0, locals := 25 } : Room)).room s m ([.ref h0, .int (nI k)] : List Value).toArray below meth c H locs 0 0 (MQ below (zQ (dC, dI) vwCl (S := Unit) (fun zu => True) (fun zu => some (.int (nI (zsum mk (fun p => zimg cp p (zlst mt me r mB)) r 8)))) (fun zu => [(h0, zoMd mS mQ gK gV gH mL mo gM mch mA mP gI gR gT gF gS gE gC mB ml (nI r)), (gK, zaI (cT 0) 1100 mk), (gT, zaZ (cT 2) 260 mt), (gE, zaN (cT 0) 260 me), (gC, zaI (cT 0) 2080 cp)]) A) ([.ref h0, .int (nI k)] : List Value).toArray s 0 0 A) (F0 m 109 ls []) := by
                      intro fu
                      induction fu with
                      | zero => intro _ _ _ hm; exact absurd hm (Nat.not_lt_zero _)
                      | succ fu ih_109 =>
                        intro b fr fd hm_109 h5 h6 h7 H locs hP hD hS ls hl
                        refine lv_iload hx hb d_Md_restore_109 (lv_at hl 8 rfl) ?_
                        refine lv_iconst (v := (nI 1)) hx hb d_Md_restore_111 (by decide) ?_
                        refine zn_icmp_lt (tgt := 160) hx hb (a := b) (b := 1) (by omega) (by omega) d_Md_restore_112 (by decide) (fun c_112 => ?_) (fun c_112 => ?_)
                        · have h10 : fr = zimg cp pq la := by cases fd; exact (h7.1.trans (by rw [h7.2, show b = 0 by omega]; rfl)); exact h7
                          have h11 := himg pq (by omega)
                          rw [← hla, ← h10] at h11
                          have h12 := zcho_le mk pq fr r
                          refine lv_iload hx hb d_Md_restore_160 (lv_at hl 4 rfl) ?_
                          refine lv_aload_n hx hb d_Md_restore_162 rfl (lv_at hl 0 rfl) ?_
                          refine lv_iload hx hb d_Md_restore_163 (lv_at hl 5 rfl) ?_
                          refine lv_iload hx hb d_Md_restore_165 (lv_at hl 6 rfl) ?_
                          refine lv_iload_n hx hb d_Md_restore_167 rfl (lv_at hl 2 rfl) ?_
                          refine zw_R (r := .int (nI (zcho mk pq fr r))) (va_runV (As := [.int (nI pq), .int (nI fr), .int (nI r)]) (rest := [.int (nI n)]) ⟨hx, hb, hml, hown, hts⟩ (c_Md_changesOn l dC dI cT h0 mS mQ gK gV gH mL mo gM mch mA mP gI gR gT gF gS gE gC mB ml mz pq fr r mk (by first | omega | assumption) (by first | omega | assumption) (by first | omega | assumption) (by first | omega | assumption) (by first | omega | assumption)) (cwV 3 hts (zgV wd_716 wd_718 wp_19 wd_11 wd_719) rfl rfl rfl (by decide +kernel) ⟨Nat.le_of_ble_eq_true rfl, Nat.le_of_ble_eq_true rfl⟩) ⟨zPreR_blind, va_recv hK hP (ci := 6) (q0 := 0) rfl rfl, zp_R hK hE (zSub (X := [(h0, zoMd mS mQ gK gV gH mL mo gM mch mA mP gI gR gT gF gS gE gC mB ml mz), (gK, zaI (cT 0) 1100 mk), (gT, zaZ (cT 2) 260 mt), (gE, zaN (cT 0) 260 me), (gC, zaI (cT 0) 2080 cp)]) (pl := []) hP [0, 1] rfl)⟩ rfl rfl hl.1 rfl (lv_room (Nat.le_of_ble_eq_true rfl)) d_Md_restore_168 ⟨Nat.le_of_ble_eq_true rfl, Nat.le_of_ble_eq_true rfl⟩) ?_
                          refine zn_iadd hx hb d_Md_restore_171 ?_
                          refine lv_istore (lv' := [(4, .int (nI (n + (zcho mk pq fr r)))), (0, .ref h0), (1, .int (nI k)), (2, .int (nI r)), (3, .int (nI la)), (5, .int (nI pq)), (6, .int (nI fr)), (7, .int (zb fd)), (8, .int (nI b))]) hx hb d_Md_restore_172 hl (by decide) rfl (fun ls hl => ?_)
                          refine lv_iinc (v := (nI (pq + 1))) (lv' := [(5, .int (nI (pq + 1))), (4, .int (nI (n + (zcho mk pq fr r)))), (0, .ref h0), (1, .int (nI k)), (2, .int (nI r)), (3, .int (nI la)), (6, .int (nI fr)), (7, .int (zb fd)), (8, .int (nI b))]) hx hb d_Md_restore_174 hl (k := 5) rfl (nI_1 _) (by decide) rfl (fun ls hl => ?_)
                          refine lv_goto (tgt := 85) hx hb d_Md_restore_177 (by decide) ?_
                          exact ih_85 (pq + 1) (n + (zcho mk pq fr r)) (by omega) (by first | omega | assumption) (by rw [h14, h10, hla]; rfl) H locs (hP.sub [0, 1, 2, 3, 4] rfl) (hD.sub [0, 1, 2, 3, 4] (by decide) rfl) hS ls (lv_sub hl [2, 3, 4, 5, 1, 0] rfl)
                        · refine lv_iload hx hb d_Md_restore_115 (lv_at hl 7 rfl) ?_
                          refine zb_if_ne (tgt := 160) hx hb d_Md_restore_117 (by decide) (fun c_117 => ?_) (fun c_117 => ?_)
                          · have h10 : fr = zimg cp pq la := by rw [c_117, if_pos rfl] at h7; exact h7
                            have h11 := himg pq (by omega)
                            rw [← hla, ← h10] at h11
                            have h12 := zcho_le mk pq fr r
                            refine lv_iload hx hb d_Md_restore_160 (lv_at hl 4 rfl) ?_
                            refine lv_aload_n hx hb d_Md_restore_162 rfl (lv_at hl 0 rfl) ?_
                            refine lv_iload hx hb d_Md_restore_163 (lv_at hl 5 rfl) ?_
                            refine lv_iload hx hb d_Md_restore_165 (lv_at hl 6 rfl) ?_
                            refine lv_iload_n hx hb d_Md_restore_167 rfl (lv_at hl 2 rfl) ?_
                            refine zw_R (r := .int (nI (zcho mk pq fr r))) (va_runV (As := [.int (nI pq), .int (nI fr), .int (nI r)]) (rest := [.int (nI n)]) ⟨hx, hb, hml, hown, hts⟩ (c_Md_changesOn l dC dI cT h0 mS mQ gK gV gH mL mo gM mch mA mP gI gR gT gF gS gE gC mB ml mz pq fr r mk (by first | omega | assumption) (by first | omega | assumption) (by first | omega | assumption) (by first | omega | assumption) (by first | omega | assumption)) (cwV 3 hts (zgV wd_716 wd_718 wp_19 wd_11 wd_719) rfl rfl rfl (by decide +kernel) ⟨Nat.le_of_ble_eq_true rfl, Nat.le_of_ble_eq_true rfl⟩) ⟨zPreR_blind, va_recv hK hP (ci := 6) (q0 := 0) rfl rfl, zp_R hK hE (zSub (X := [(h0, zoMd mS mQ gK gV gH mL mo gM mch mA mP gI gR gT gF gS gE gC mB ml mz), (gK, zaI (cT 0) 1100 mk), (gT, zaZ (cT 2) 260 mt), (gE, zaN (cT 0) 260 me), (gC, zaI (cT 0) 2080 cp)]) (pl := []) hP [0, 1] rfl)⟩ rfl rfl hl.1 rfl (lv_room (Nat.le_of_ble_eq_true rfl)) d_Md_restore_168 ⟨Nat.le_of_ble_eq_true rfl, Nat.le_of_ble_eq_true rfl⟩) ?_
                            refine zn_iadd hx hb d_Md_restore_171 ?_
                            refine lv_istore (lv' := [(4, .int (nI (n + (zcho mk pq fr r)))), (0, .ref h0), (1, .int (nI k)), (2, .int (nI r)), (3, .int (nI la)), (5, .int (nI pq)), (6, .int (nI fr)), (7, .int (zb fd)), (8, .int (nI b))]) hx hb d_Md_restore_172 hl (by decide) rfl (fun ls hl => ?_)
                            refine lv_iinc (v := (nI (pq + 1))) (lv' := [(5, .int (nI (pq + 1))), (4, .int (nI (n + (zcho mk pq fr r)))), (0, .ref h0), (1, .int (nI k)), (2, .int (nI r)), (3, .int (nI la)), (6, .int (nI fr)), (7, .int (zb fd)), (8, .int (nI b))]) hx hb d_Md_restore_174 hl (k := 5) rfl (nI_1 _) (by decide) rfl (fun ls hl => ?_)
                            refine lv_goto (tgt := 85) hx hb d_Md_restore_177 (by decide) ?_
                            exact ih_85 (pq + 1) (n + (zcho mk pq fr r)) (by omega) (by first | omega | assumption) (by rw [h14, h10, hla]; rfl) H locs (hP.sub [0, 1, 2, 3, 4] rfl) (hD.sub [0, 1, 2, 3, 4] (by decide) rfl) hS ls (lv_sub hl [2, 3, 4, 5, 1, 0] rfl)
                          · refine lv_aload_n hx hb d_Md_restore_120 rfl (lv_at hl 0 rfl) ?_
                            refine va_get (D := (dC, dI)) (ci := 6) (v := .ref gC) (C := R_Md) (T := F_Md) (N := 21) hx hb hts i_Md hown hK hP 0 rfl rfl 17 (by decide) (hts _ wd_580) (fun _ h9 => h9) rfl d_Md_restore_121 ?_
                            refine lv_iload hx hb d_Md_restore_124 (lv_at hl 8 rfl) ?_
                            refine lv_bipush (v := (nI 8)) hx hb d_Md_restore_126 (by decide) ?_
                            refine zn_imul hx hb d_Md_restore_128 ?_
                            refine lv_iload hx hb d_Md_restore_129 (lv_at hl 5 rfl) ?_
                            refine zn_iadd hx hb d_Md_restore_131 ?_
                            refine zn_iald hx hb hK hP 4 0 rfl rfl (i := (b * 8) + pq) (by omega) (by omega) d_Md_restore_132 ?_
                            refine lv_if_lt (tgt := 154) hx hb d_Md_restore_133 (by decide) (fun c_133 => ?_) (fun c_133 => ?_)
                            · have hl : lv_has ls 9 [(0, .ref h0), (1, .int (nI k)), (2, .int (nI r)), (3, .int (nI la)), (4, .int (nI n)), (5, .int (nI pq)), (6, .int (nI fr)), (7, .int (zb false)), (8, .int (nI b))] := by rw [c_117] at hl; exact hl
                              refine lv_iinc (v := (nI (b - 1))) (lv' := [(8, .int (nI (b - 1))), (0, .ref h0), (1, .int (nI k)), (2, .int (nI r)), (3, .int (nI la)), (4, .int (nI n)), (5, .int (nI pq)), (6, .int (nI fr)), (7, .int (zb false))]) hx hb d_Md_restore_154 hl (k := 8) rfl (sb_m1 (by omega)) (by decide) rfl (fun ls hl => ?_)
                              refine lv_goto (tgt := 109) hx hb d_Md_restore_157 (by decide) ?_
                              exact ih_109 (b - 1) fr false (by omega) (by first | omega | assumption) (by first | omega | assumption) (by rw [if_neg (by decide)]; rw [c_117, if_neg (by decide)] at h7; exact ⟨h7.1, by rw [h7.2, zimg_pos (by omega), if_neg (fun q => q c_133)]⟩) H locs (hP.sub [0, 1, 2, 3, 4] rfl) (hD.sub [0, 1, 2, 3, 4] (by decide) rfl) hS ls (lv_sub hl [1, 2, 3, 4, 5, 6, 7, 8, 0] rfl)
                            · refine lv_aload_n hx hb d_Md_restore_136 rfl (lv_at hl 0 rfl) ?_
                              refine va_get (D := (dC, dI)) (ci := 6) (v := .ref gC) (C := R_Md) (T := F_Md) (N := 21) hx hb hts i_Md hown hK hP 0 rfl rfl 17 (by decide) (hts _ wd_580) (fun _ h9 => h9) rfl d_Md_restore_137 ?_
                              refine lv_iload hx hb d_Md_restore_140 (lv_at hl 8 rfl) ?_
                              refine lv_bipush (v := (nI 8)) hx hb d_Md_restore_142 (by decide) ?_
                              refine zn_imul hx hb d_Md_restore_144 ?_
                              refine lv_iload hx hb d_Md_restore_145 (lv_at hl 5 rfl) ?_
                              refine zn_iadd hx hb d_Md_restore_147 ?_
                              refine zn_iald hx hb hK hP 4 0 rfl rfl (i := (b * 8) + pq) (by omega) (by omega) d_Md_restore_148 ?_
                              refine lv_istore (lv' := [(6, .int (cp ((b * 8) + pq))), (0, .ref h0), (1, .int (nI k)), (2, .int (nI r)), (3, .int (nI la)), (4, .int (nI n)), (5, .int (nI pq)), (7, .int (zb fd)), (8, .int (nI b))]) hx hb d_Md_restore_149 hl (by decide) rfl (fun ls hl => ?_)
                              refine lv_iconst (v := (nI 1)) hx hb d_Md_restore_151 (by decide) ?_
                              refine lv_istore (lv' := [(7, .int (nI 1)), (6, .int (cp ((b * 8) + pq))), (0, .ref h0), (1, .int (nI k)), (2, .int (nI r)), (3, .int (nI la)), (4, .int (nI n)), (5, .int (nI pq)), (8, .int (nI b))]) hx hb d_Md_restore_152 hl (by decide) rfl (fun ls hl => ?_)
                              obtain ⟨h8, h9⟩ := okc_nn (hcp (b * 8 + pq)) c_133
                              have hl : lv_has ls 9 [(7, .int (nI 1)), (6, .int (nI (kN (cp (b * 8 + pq))))), (0, .ref h0), (1, .int (nI k)), (2, .int (nI r)), (3, .int (nI la)), (4, .int (nI n)), (5, .int (nI pq)), (8, .int (nI b))] := by rw [← h8]; exact hl
                              have hl : lv_has ls 9 [(7, .int (zb true)), (6, .int (nI (kN (cp (b * 8 + pq))))), (0, .ref h0), (1, .int (nI k)), (2, .int (nI r)), (3, .int (nI la)), (4, .int (nI n)), (5, .int (nI pq)), (8, .int (nI b))] := hl
                              refine lv_iinc (v := (nI (b - 1))) (lv' := [(8, .int (nI (b - 1))), (7, .int (zb true)), (6, .int (nI (kN (cp (b * 8 + pq))))), (0, .ref h0), (1, .int (nI k)), (2, .int (nI r)), (3, .int (nI la)), (4, .int (nI n)), (5, .int (nI pq))]) hx hb d_Md_restore_154 hl (k := 8) rfl (sb_m1 (by omega)) (by decide) rfl (fun ls hl => ?_)
                              refine lv_goto (tgt := 109) hx hb d_Md_restore_157 (by decide) ?_
                              exact ih_109 (b - 1) (kN (cp (b * 8 + pq))) true (by omega) (by first | omega | assumption) (by first | omega | assumption) (by rw [if_pos rfl]; rw [c_117, if_neg (by decide)] at h7; rw [h7.2, zimg_pos (by omega), if_pos c_133]) H locs (hP.sub [0, 1, 2, 3, 4] rfl) (hD.sub [0, 1, 2, 3, 4] (by decide) rfl) hS ls (lv_sub hl [3, 4, 5, 6, 7, 8, 2, 1, 0] rfl)
                    exact loop_109 (la + 1) la 0 true (by omega) (by omega) (by omega) (by rw [if_pos rfl, c_96]; rfl) H locs (hP.sub [0, 1, 2, 3, 4] rfl) (hD.sub [0, 1, 2, 3, 4] (by decide) rfl) hS ls (lv_sub hl [3, 4, 5, 6, 7, 8, 2, 1, 0] rfl)
            exact loop_85 (8 - 0 + 1) 0 0 (by omega) (by first | omega | assumption) rfl H locs (hP.sub [0, 1, 2, 3, 4] rfl) (hD.sub [0, 1, 2, 3, 4] (by decide) rfl) hS ls (lv_sub hl [2, 3, 4, 5, 1, 0] rfl)
          · exact absurd hz0 (fun q => q.elim (fun q1 => q1 (by omega)) (fun q2 => by omega))
      · refine lv_aload_n hx hb d_Md_restore_35 rfl (lv_at hl 0 rfl) ?_
        refine va_get (D := (dC, dI)) (ci := 6) (v := .ref gT) (C := R_Md) (T := F_Md) (N := 21) hx hb hts i_Md hown hK hP 0 rfl rfl 13 (by decide) (hts _ wd_576) (fun _ h9 => h9) rfl d_Md_restore_36 ?_
        refine lv_iload hx hb d_Md_restore_39 (lv_at hl 4 rfl) ?_
        refine zn_zald hx hb hK hP 2 2 rfl rfl (i := i) (by omega) (by omega) d_Md_restore_41 ?_
        refine zb_if_eq (tgt := 59) hx hb d_Md_restore_42 (by decide) (fun c_42 => ?_) (fun c_42 => ?_)
        · refine lv_iinc (v := (nI (i + 1))) (lv' := [(4, .int (nI (i + 1))), (0, .ref h0), (1, .int (nI k)), (2, .int (nI r)), (3, .int (nI la))]) hx hb d_Md_restore_59 hl (k := 4) rfl (nI_1 _) (by decide) rfl (fun ls hl => ?_)
          refine lv_goto (tgt := 26) hx hb d_Md_restore_62 (by decide) ?_
          exact ih_26 (i + 1) la (by omega) (by first | omega | assumption) (by first | omega | assumption) (by rw [Nat.add_sub_cancel, zlst_pos (by omega), if_neg (fun q => by rw [c_42] at q; exact absurd q.1 (by decide))]; exact h3) (by omega) H locs (hP.sub [0, 1, 2, 3, 4] rfl) (hD.sub [0, 1, 2, 3, 4] (by decide) rfl) hS ls (lv_sub hl [1, 2, 3, 4, 0] rfl)
        · have hme1 := hme i
          refine lv_aload_n hx hb d_Md_restore_45 rfl (lv_at hl 0 rfl) ?_
          refine va_get (D := (dC, dI)) (ci := 6) (v := .ref gE) (C := R_Md) (T := F_Md) (N := 21) hx hb hts i_Md hown hK hP 0 rfl rfl 16 (by decide) (hts _ wd_579) (fun _ h9 => h9) rfl d_Md_restore_46 ?_
          refine lv_iload hx hb d_Md_restore_49 (lv_at hl 4 rfl) ?_
          refine zn_iald hx hb hK hP 3 0 rfl rfl (i := i) (by omega) (by omega) d_Md_restore_51 ?_
          refine lv_iload_n hx hb d_Md_restore_52 rfl (lv_at hl 2 rfl) ?_
          refine zn_icmp_ge (tgt := 59) hx hb (a := me i) (b := r) (by omega) (by omega) d_Md_restore_53 (by decide) (fun c_53 => ?_) (fun c_53 => ?_)
          · refine lv_iinc (v := (nI (i + 1))) (lv' := [(4, .int (nI (i + 1))), (0, .ref h0), (1, .int (nI k)), (2, .int (nI r)), (3, .int (nI la))]) hx hb d_Md_restore_59 hl (k := 4) rfl (nI_1 _) (by decide) rfl (fun ls hl => ?_)
            refine lv_goto (tgt := 26) hx hb d_Md_restore_62 (by decide) ?_
            exact ih_26 (i + 1) la (by omega) (by first | omega | assumption) (by first | omega | assumption) (by rw [Nat.add_sub_cancel, zlst_pos (by omega), if_neg (fun q => absurd q.2 (Nat.not_lt.mpr c_53))]; exact h3) (by omega) H locs (hP.sub [0, 1, 2, 3, 4] rfl) (hD.sub [0, 1, 2, 3, 4] (by decide) rfl) hS ls (lv_sub hl [1, 2, 3, 4, 0] rfl)
          · refine lv_iload hx hb d_Md_restore_56 (lv_at hl 4 rfl) ?_
            refine lv_istore_n (lv' := [(3, .int (nI i)), (0, .ref h0), (1, .int (nI k)), (2, .int (nI r)), (4, .int (nI i))]) hx hb d_Md_restore_58 rfl hl (by decide) rfl (fun ls hl => ?_)
            refine lv_iinc (v := (nI (i + 1))) (lv' := [(4, .int (nI (i + 1))), (3, .int (nI i)), (0, .ref h0), (1, .int (nI k)), (2, .int (nI r))]) hx hb d_Md_restore_59 hl (k := 4) rfl (nI_1 _) (by decide) rfl (fun ls hl => ?_)
            refine lv_goto (tgt := 26) hx hb d_Md_restore_62 (by decide) ?_
            exact ih_26 (i + 1) i (by omega) (by first | omega | assumption) (by first | omega | assumption) (by rw [Nat.add_sub_cancel, zlst_pos (by omega), if_pos ⟨c_42, c_53⟩]) (by omega) H locs (hP.sub [0, 1, 2, 3, 4] rfl) (hD.sub [0, 1, 2, 3, 4] (by decide) rfl) hS ls (lv_sub hl [2, 3, 4, 1, 0] rfl)
  exact loop_26 (mB + 1 - 1 + 1) 1 0 (by omega) (by first | omega | assumption) (by first | omega | assumption) rfl (by omega) s.heap [] (hP.sub [0, 1, 2, 3, 4] rfl) (hD.sub [0, 1, 2, 3, 4] (by decide) rfl) hS ls (lv_sub hl [3, 4, 2, 1, 0] rfl)
set_option maxHeartbeats 4000000 in
set_option maxRecDepth 100000 in
theorem c_Md_look_none (l : Launch) (dC : Nat → ClassId) (dI : Nat → Nat → Nat) (cT : Nat → ClassId) (h0 : Nat) (mS : Nat) (mQ : Nat) (gK : Nat) (gV : Nat) (gH : Nat) (mL : Nat) (mo : Bool) (gM : Nat) (mch : Nat) (mA : Nat) (mP : Nat) (gI : Nat) (gR : Nat) (gT : Nat) (gF : Nat) (gS : Nat) (gE : Nat) (gC : Nat) (mB : Nat) (ml : Int32) (k : Int32) (mk : Nat → Int32) (mv : Nat → Int32) (mh : Nat → Bool) : Met l y_Md_look w_Md_look ({ frames := 1, cells := 0, slots := 0, locals := 21 } : Room) (zPreR (dC, dI) vwCl (zT cT) [.ref h0, .int k] ([(h0, zoMd mS mQ gK gV gH mL mo gM mch mA mP gI gR gT gF gS gE gC mB ml (-1)), (gK, zaI (cT 0) 1100 mk), (gV, zaI (cT 0) 1100 mv), (gH, zaZ (cT 2) 1100 mh)])) (k2_QcV (.long (-1000000000000))) 0 0 (fun _ => False) := by
  refine Met.ofW (cc := b_Md_look) (maxL := 2) (ret := (some .long)) (by decide) rfl ?_
  intro p e s m args below meth c s₁ B hml hv
  obtain ⟨rfl, hP, hK, hE⟩ := hv
  have hx := B.exec
  have hb := B.bytes
  have hr := B.returns
  have hts := fun w h => atoms_spec (ws := w_Md_look) B.pre w (List.mem_cons_of_mem _ h)
  have hown : s.vm.findClass R_Md = some m.cls := findClass_of_methodNamed B.named
  have hlocks := B.notSynchronized
  have hl := lv_entry ([.ref h0, .int k]) (n := 2) (Nat.le_of_ble_eq_true rfl)
  rw [lg_entry_eq]
  generalize (lg_sl ([.ref h0, .int k]) ++ List.replicate (2 - (lg_sl ([.ref h0, .int k])).length) Slot.unset).toArray = ls at hl ⊢
  have hl : lv_has ls 2 [(0, .ref h0), (1, .int k)] := hl
  refine lv_iload_n hx hb d_Md_look_0 rfl (lv_at hl 1 rfl) ?_
  refine lv_bipush (v := (nI 32)) hx hb d_Md_look_1 (by decide) ?_
  refine zw_R (r := .int (zb (isIn k 32))) (va_runS (As := [.int k, .int (nI 32)]) (rest := []) ⟨hx, hb, hml, hown, hts⟩ (c_Md_in l dC dI cT k 32) (va_cwS 2 hts (zgS wd_635 wd_636 wd_11 wd_637) rfl rfl rfl (by decide +kernel) ⟨Nat.le_of_ble_eq_true rfl, Nat.le_of_ble_eq_true rfl⟩) ⟨zPreR_blind, zp_R hK hE (zSub (X := [(h0, zoMd mS mQ gK gV gH mL mo gM mch mA mP gI gR gT gF gS gE gC mB ml (-1)), (gK, zaI (cT 0) 1100 mk), (gV, zaI (cT 0) 1100 mv), (gH, zaZ (cT 2) 1100 mh)]) (pl := []) hP [] rfl)⟩ rfl rfl hl.1 rfl (lv_room (Nat.le_of_ble_eq_true rfl)) d_Md_look_3 ⟨Nat.le_of_ble_eq_true rfl, Nat.le_of_ble_eq_true rfl⟩) ?_
  refine zb_if_eq (tgt := 28) hx hb d_Md_look_6 (by decide) (fun c_6 => ?_) (fun c_6 => ?_)
  · refine lv_ldc2 (v := (-1000000000000)) hx hb hown (hts _ wd_671) d_Md_look_28 ?_
    exact W.lret hx hb hr (fun t ht hW => ⟨rfl, ht⟩) (fun q h => by cases h) d_Md_look_31
  · refine lv_aload_n hx hb d_Md_look_9 rfl (lv_at hl 0 rfl) ?_
    refine va_get (D := (dC, dI)) (ci := 6) (v := .int (-1)) (C := R_Md) (T := F_Md) (N := 21) hx hb hts i_Md hown hK hP 0 rfl rfl 20 (by decide) (hts _ wd_583) (fun _ h9 => h9) rfl d_Md_look_10 ?_
    refine lv_if_lt (tgt := 28) hx hb d_Md_look_13 (by decide) (fun c_13 => ?_) (fun c_13 => absurd c_13 (fun q => q (by decide)))
    refine lv_ldc2 (v := (-1000000000000)) hx hb hown (hts _ wd_671) d_Md_look_28 ?_
    exact W.lret hx hb hr (fun t ht hW => ⟨rfl, ht⟩) (fun q h => by cases h) d_Md_look_31
set_option maxHeartbeats 4000000 in
set_option maxRecDepth 100000 in
theorem c_Md_look_open (l : Launch) (dC : Nat → ClassId) (dI : Nat → Nat → Nat) (cT : Nat → ClassId) (h0 : Nat) (mS : Nat) (mQ : Nat) (gK : Nat) (gV : Nat) (gH : Nat) (mL : Nat) (mo : Bool) (gM : Nat) (mch : Nat) (mA : Nat) (mP : Nat) (gI : Nat) (gR : Nat) (gT : Nat) (gF : Nat) (gS : Nat) (gE : Nat) (gC : Nat) (mB : Nat) (ml : Int32) (z : Nat) (k : Int32) (mk : Nat → Int32) (mv : Nat → Int32) (mh : Nat → Bool) (hz : z ≤ 1000) : Met l y_Md_look w_Md_look ({ frames := 1, cells := 0, slots := 0, locals := 23 } : Room) (zPreR (dC, dI) vwCl (zT cT) [.ref h0, .int k] ([(h0, zoMd mS mQ gK gV gH mL mo gM mch mA mP gI gR gT gF gS gE gC mB ml (nI z)), (gK, zaI (cT 0) 1100 mk), (gV, zaI (cT 0) 1100 mv), (gH, zaZ (cT 2) 1100 mh)])) (k2_QcV (.long (if isIn k 32 = true then zaf mk mv mh k z else (-1000000000000)))) 0 0 (fun _ => False) := by
  refine Met.ofW (cc := b_Md_look) (maxL := 2) (ret := (some .long)) (by decide) rfl ?_
  intro p e s m args below meth c s₁ B hml hv
  obtain ⟨rfl, hP, hK, hE⟩ := hv
  have hx := B.exec
  have hb := B.bytes
  have hr := B.returns
  have hts := fun w h => atoms_spec (ws := w_Md_look) B.pre w (List.mem_cons_of_mem _ h)
  have hown : s.vm.findClass R_Md = some m.cls := findClass_of_methodNamed B.named
  have hlocks := B.notSynchronized
  have hl := lv_entry ([.ref h0, .int k]) (n := 2) (Nat.le_of_ble_eq_true rfl)
  rw [lg_entry_eq]
  generalize (lg_sl ([.ref h0, .int k]) ++ List.replicate (2 - (lg_sl ([.ref h0, .int k])).length) Slot.unset).toArray = ls at hl ⊢
  have hl : lv_has ls 2 [(0, .ref h0), (1, .int k)] := hl
  refine lv_iload_n hx hb d_Md_look_0 rfl (lv_at hl 1 rfl) ?_
  refine lv_bipush (v := (nI 32)) hx hb d_Md_look_1 (by decide) ?_
  refine zw_R (r := .int (zb (isIn k 32))) (va_runS (As := [.int k, .int (nI 32)]) (rest := []) ⟨hx, hb, hml, hown, hts⟩ (c_Md_in l dC dI cT k 32) (va_cwS 2 hts (zgS wd_635 wd_636 wd_11 wd_637) rfl rfl rfl (by decide +kernel) ⟨Nat.le_of_ble_eq_true rfl, Nat.le_of_ble_eq_true rfl⟩) ⟨zPreR_blind, zp_R hK hE (zSub (X := [(h0, zoMd mS mQ gK gV gH mL mo gM mch mA mP gI gR gT gF gS gE gC mB ml (nI z)), (gK, zaI (cT 0) 1100 mk), (gV, zaI (cT 0) 1100 mv), (gH, zaZ (cT 2) 1100 mh)]) (pl := []) hP [] rfl)⟩ rfl rfl hl.1 rfl (lv_room (Nat.le_of_ble_eq_true rfl)) d_Md_look_3 ⟨Nat.le_of_ble_eq_true rfl, Nat.le_of_ble_eq_true rfl⟩) ?_
  refine zb_if_eq (tgt := 28) hx hb d_Md_look_6 (by decide) (fun c_6 => ?_) (fun c_6 => ?_)
  · refine lv_ldc2 (v := (-1000000000000)) hx hb hown (hts _ wd_671) d_Md_look_28 ?_
    exact W.lret hx hb hr (fun t ht hW => ⟨by rw [if_neg (by rw [c_6]; decide)], ht⟩) (fun q h => by cases h) d_Md_look_31
  · refine lv_aload_n hx hb d_Md_look_9 rfl (lv_at hl 0 rfl) ?_
    refine va_get (D := (dC, dI)) (ci := 6) (v := .int (nI z)) (C := R_Md) (T := F_Md) (N := 21) hx hb hts i_Md hown hK hP 0 rfl rfl 20 (by decide) (hts _ wd_583) (fun _ h9 => h9) rfl d_Md_look_10 ?_
    refine zn_if_lt (tgt := 28) hx hb (a := z) (by omega) d_Md_look_13 (by decide) (fun c => c.elim) (fun _ => ?_)
    refine lv_aload_n hx hb d_Md_look_16 rfl (lv_at hl 0 rfl) ?_
    refine lv_aload_n hx hb d_Md_look_17 rfl (lv_at hl 0 rfl) ?_
    refine va_get (D := (dC, dI)) (ci := 6) (v := .int (nI z)) (C := R_Md) (T := F_Md) (N := 21) hx hb hts i_Md hown hK hP 0 rfl rfl 20 (by decide) (hts _ wd_583) (fun _ h9 => h9) rfl d_Md_look_18 ?_
    refine lv_iload_n hx hb d_Md_look_21 rfl (lv_at hl 1 rfl) ?_
    refine zw_R (r := .long (zaf mk mv mh k z)) (va_runV (As := [.int (nI z), .int k]) (rest := []) ⟨hx, hb, hml, hown, hts⟩ (c_Md_after l dC dI cT h0 mS mQ gK gV gH mL mo gM mch mA mP gI gR gT gF gS gE gC mB ml (nI z) z k mk mv mh (by first | omega | assumption)) (cwV 2 hts (zgV wd_662 wd_664 wp_12 wd_11 wd_665) rfl rfl rfl (by decide +kernel) ⟨Nat.le_of_ble_eq_true rfl, Nat.le_of_ble_eq_true rfl⟩) ⟨zPreR_blind, va_recv hK hP (ci := 6) (q0 := 0) rfl rfl, zp_R hK hE (zSub (X := [(h0, zoMd mS mQ gK gV gH mL mo gM mch mA mP gI gR gT gF gS gE gC mB ml (nI z)), (gK, zaI (cT 0) 1100 mk), (gV, zaI (cT 0) 1100 mv), (gH, zaZ (cT 2) 1100 mh)]) (pl := []) hP [0, 1, 2, 3] rfl)⟩ rfl rfl hl.1 rfl (lv_room (Nat.le_of_ble_eq_true rfl)) d_Md_look_22 ⟨Nat.le_of_ble_eq_true rfl, Nat.le_of_ble_eq_true rfl⟩) ?_
    refine lv_goto (tgt := 31) hx hb d_Md_look_25 (by decide) ?_
    exact W.lret hx hb hr (fun t ht hW => ⟨by rw [if_pos c_6], ht⟩) (fun q h => by cases h) d_Md_look_31
set_option maxHeartbeats 4000000 in
set_option maxRecDepth 100000 in
theorem c_Md_page_ref (l : Launch) (dC : Nat → ClassId) (dI : Nat → Nat → Nat) (cT : Nat → ClassId) (h0 : Nat) (mS : Nat) (mQ : Nat) (gK : Nat) (gV : Nat) (gH : Nat) (mL : Nat) (mo : Bool) (gM : Nat) (mch : Nat) (mA : Nat) (mP : Nat) (gI : Nat) (gR : Nat) (gT : Nat) (gF : Nat) (gS : Nat) (gE : Nat) (gC : Nat) (mB : Nat) (ml : Int32) (mz : Int32) (k : Int32) (w : Int32) (hno : ¬ (isIn k 8 = true ∧ isIn w 4 = true)) : Met l y_Md_page w_Md_page ({ frames := 1, cells := 0, slots := 0, locals := 21 } : Room) (zPreR (dC, dI) vwCl (zT cT) [.ref h0, .int k, .int w] ([(h0, zoMd mS mQ gK gV gH mL mo gM mch mA mP gI gR gT gF gS gE gC mB ml mz)])) (k2_QcV (.int (-1))) 0 0 (fun _ => False) := by
  refine Met.ofW (cc := b_Md_page) (maxL := 5) (ret := (some .int)) (by decide) rfl ?_
  intro p e s m args below meth c s₁ B hml hv
  obtain ⟨rfl, hP, hK, hE⟩ := hv
  have hx := B.exec
  have hb := B.bytes
  have hr := B.returns
  have hts := fun w h => atoms_spec (ws := w_Md_page) B.pre w (List.mem_cons_of_mem _ h)
  have hown : s.vm.findClass R_Md = some m.cls := findClass_of_methodNamed B.named
  have hlocks := B.notSynchronized
  have hl := lv_entry ([.ref h0, .int k, .int w]) (n := 5) (Nat.le_of_ble_eq_true rfl)
  rw [lg_entry_eq]
  generalize (lg_sl ([.ref h0, .int k, .int w]) ++ List.replicate (5 - (lg_sl ([.ref h0, .int k, .int w])).length) Slot.unset).toArray = ls at hl ⊢
  have hl : lv_has ls 5 [(0, .ref h0), (1, .int k), (2, .int w)] := hl
  refine lv_iload_n hx hb d_Md_page_0 rfl (lv_at hl 1 rfl) ?_
  refine lv_bipush (v := (nI 8)) hx hb d_Md_page_1 (by decide) ?_
  refine zw_R (r := .int (zb (isIn k 8))) (va_runS (As := [.int k, .int (nI 8)]) (rest := []) ⟨hx, hb, hml, hown, hts⟩ (c_Md_in l dC dI cT k 8) (va_cwS 2 hts (zgS wd_635 wd_636 wd_11 wd_637) rfl rfl rfl (by decide +kernel) ⟨Nat.le_of_ble_eq_true rfl, Nat.le_of_ble_eq_true rfl⟩) ⟨zPreR_blind, zp_R hK hE (zSub (X := [(h0, zoMd mS mQ gK gV gH mL mo gM mch mA mP gI gR gT gF gS gE gC mB ml mz)]) (pl := []) hP [] rfl)⟩ rfl rfl hl.1 rfl (lv_room (Nat.le_of_ble_eq_true rfl)) d_Md_page_3 ⟨Nat.le_of_ble_eq_true rfl, Nat.le_of_ble_eq_true rfl⟩) ?_
  refine zb_if_eq (tgt := 17) hx hb d_Md_page_6 (by decide) (fun c_6 => ?_) (fun c_6 => ?_)
  · refine lv_iconst (v := (-1)) hx hb d_Md_page_17 (by decide) ?_
    exact W.iret hx hb hr (fun t ht hW => ⟨rfl, ht⟩) (fun q h => by cases h) d_Md_page_18
  · refine lv_iload_n hx hb d_Md_page_9 rfl (lv_at hl 2 rfl) ?_
    refine lv_iconst (v := (nI 4)) hx hb d_Md_page_10 (by decide) ?_
    refine zw_R (r := .int (zb (isIn w 4))) (va_runS (As := [.int w, .int (nI 4)]) (rest := []) ⟨hx, hb, hml, hown, hts⟩ (c_Md_in l dC dI cT w 4) (va_cwS 2 hts (zgS wd_635 wd_636 wd_11 wd_637) rfl rfl rfl (by decide +kernel) ⟨Nat.le_of_ble_eq_true rfl, Nat.le_of_ble_eq_true rfl⟩) ⟨zPreR_blind, zp_R hK hE (zSub (X := [(h0, zoMd mS mQ gK gV gH mL mo gM mch mA mP gI gR gT gF gS gE gC mB ml mz)]) (pl := []) hP [] rfl)⟩ rfl rfl hl.1 rfl (lv_room (Nat.le_of_ble_eq_true rfl)) d_Md_page_11 ⟨Nat.le_of_ble_eq_true rfl, Nat.le_of_ble_eq_true rfl⟩) ?_
    refine zb_if_ne (tgt := 19) hx hb d_Md_page_14 (by decide) (fun c_14 => ?_) (fun c_14 => ?_)
    · exact absurd ⟨c_6, c_14⟩ hno
    · refine lv_iconst (v := (-1)) hx hb d_Md_page_17 (by decide) ?_
      exact W.iret hx hb hr (fun t ht hW => ⟨rfl, ht⟩) (fun q h => by cases h) d_Md_page_18
set_option maxHeartbeats 4000000 in
set_option maxRecDepth 100000 in
theorem c_Md_page_0 (l : Launch) (dC : Nat → ClassId) (dI : Nat → Nat → Nat) (cT : Nat → ClassId) (h0 : Nat) (mS : Nat) (mQ : Nat) (gK : Nat) (gV : Nat) (gH : Nat) (mL : Nat) (mo : Bool) (gM : Nat) (mch : Nat) (mA : Nat) (mP : Nat) (gI : Nat) (gR : Nat) (gT : Nat) (gF : Nat) (gS : Nat) (gE : Nat) (gC : Nat) (mB : Nat) (ml : Int32) (mz : Int32) (pg : Nat) (mk : Nat → Int32) (hp : pg < 8) (hL : mL ≤ 1000) (hkey : ∀ i, 1 ≤ i → i ≤ mL → ¬ mk i < 0 → isIn (mk i) 32 = true) : Met l y_Md_page w_Md_page ({ frames := 1, cells := 0, slots := 0, locals := 22 } : Room) (zPreR (dC, dI) vwCl (zT cT) [.ref h0, .int (nI pg), .int (nI 0)] ([(h0, zoMd mS mQ gK gV gH mL mo gM mch mA mP gI gR gT gF gS gE gC mB ml mz), (gK, zaI (cT 0) 1100 mk)])) (k2_QcV (.int (nI (znum mk pg mL)))) 0 0 (fun _ => False) := by
  refine Met.ofW (cc := b_Md_page) (maxL := 5) (ret := (some .int)) (by decide) rfl ?_
  intro p e s m args below meth c s₁ B hml hv
  obtain ⟨rfl, hP, hK, hE⟩ := hv
  have hx := B.exec
  have hb := B.bytes
  have hr := B.returns
  have hts := fun w h => atoms_spec (ws := w_Md_page) B.pre w (List.mem_cons_of_mem _ h)
  have hown : s.vm.findClass R_Md = some m.cls := findClass_of_methodNamed B.named
  have hlocks := B.notSynchronized
  have hl := lv_entry ([.ref h0, .int (nI pg), .int (nI 0)]) (n := 5) (Nat.le_of_ble_eq_true rfl)
  rw [lg_entry_eq]
  generalize (lg_sl ([.ref h0, .int (nI pg), .int (nI 0)]) ++ List.replicate (5 - (lg_sl ([.ref h0, .int (nI pg), .int (nI 0)])).length) Slot.unset).toArray = ls at hl ⊢
  have hl : lv_has ls 5 [(0, .ref h0), (1, .int (nI pg)), (2, .int (nI 0))] := hl
  refine lv_iload_n hx hb d_Md_page_0 rfl (lv_at hl 1 rfl) ?_
  refine lv_bipush (v := (nI 8)) hx hb d_Md_page_1 (by decide) ?_
  refine zw_R (r := .int (zb (isIn (nI pg) 8))) (va_runS (As := [.int (nI pg), .int (nI 8)]) (rest := []) ⟨hx, hb, hml, hown, hts⟩ (c_Md_in l dC dI cT (nI pg) 8) (va_cwS 2 hts (zgS wd_635 wd_636 wd_11 wd_637) rfl rfl rfl (by decide +kernel) ⟨Nat.le_of_ble_eq_true rfl, Nat.le_of_ble_eq_true rfl⟩) ⟨zPreR_blind, zp_R hK hE (zSub (X := [(h0, zoMd mS mQ gK gV gH mL mo gM mch mA mP gI gR gT gF gS gE gC mB ml mz), (gK, zaI (cT 0) 1100 mk)]) (pl := []) hP [] rfl)⟩ rfl rfl hl.1 rfl (lv_room (Nat.le_of_ble_eq_true rfl)) d_Md_page_3 ⟨Nat.le_of_ble_eq_true rfl, Nat.le_of_ble_eq_true rfl⟩) ?_
  refine zb_if_eq (tgt := 17) hx hb d_Md_page_6 (by decide) (fun c_6 => absurd c_6 (by rw [isIn_nI (by decide) hp]; decide)) (fun c_6 => ?_)
  refine lv_iload_n hx hb d_Md_page_9 rfl (lv_at hl 2 rfl) ?_
  refine lv_iconst (v := (nI 4)) hx hb d_Md_page_10 (by decide) ?_
  refine zw_R (r := .int (zb (isIn (nI 0) 4))) (va_runS (As := [.int (nI 0), .int (nI 4)]) (rest := []) ⟨hx, hb, hml, hown, hts⟩ (c_Md_in l dC dI cT (nI 0) 4) (va_cwS 2 hts (zgS wd_635 wd_636 wd_11 wd_637) rfl rfl rfl (by decide +kernel) ⟨Nat.le_of_ble_eq_true rfl, Nat.le_of_ble_eq_true rfl⟩) ⟨zPreR_blind, zp_R hK hE (zSub (X := [(h0, zoMd mS mQ gK gV gH mL mo gM mch mA mP gI gR gT gF gS gE gC mB ml mz), (gK, zaI (cT 0) 1100 mk)]) (pl := []) hP [] rfl)⟩ rfl rfl hl.1 rfl (lv_room (Nat.le_of_ble_eq_true rfl)) d_Md_page_11 ⟨Nat.le_of_ble_eq_true rfl, Nat.le_of_ble_eq_true rfl⟩) ?_
  refine zb_if_ne (tgt := 19) hx hb d_Md_page_14 (by decide) (fun c_14 => ?_) (fun c_14 => absurd c_14 (by decide))
  refine lv_iload_n hx hb d_Md_page_19 rfl (lv_at hl 2 rfl) ?_
  refine zn_if_ne (tgt := 29) hx hb (a := 0) (by omega) d_Md_page_20 (by decide) (fun c_20 => absurd c_20 (by omega)) (fun c_20 => ?_)
  refine lv_aload_n hx hb d_Md_page_23 rfl (lv_at hl 0 rfl) ?_
  refine lv_iload_n hx hb d_Md_page_24 rfl (lv_at hl 1 rfl) ?_
  refine zw_R (r := .int (nI (znum mk pg mL))) (va_runV (As := [.int (nI pg)]) (rest := []) ⟨hx, hb, hml, hown, hts⟩ (c_Md_numberOf l dC dI cT h0 mS mQ gK gV gH mL mo gM mch mA mP gI gR gT gF gS gE gC mB ml mz pg mk (by first | omega | assumption) (by first | omega | assumption) (by first | omega | assumption)) (cwV 1 hts (zgV wd_676 wd_678 wp_13 wd_11 wd_679) rfl rfl rfl (by decide +kernel) ⟨Nat.le_of_ble_eq_true rfl, Nat.le_of_ble_eq_true rfl⟩) ⟨zPreR_blind, va_recv hK hP (ci := 6) (q0 := 0) rfl rfl, zp_R hK hE (zSub (X := [(h0, zoMd mS mQ gK gV gH mL mo gM mch mA mP gI gR gT gF gS gE gC mB ml mz), (gK, zaI (cT 0) 1100 mk)]) (pl := []) hP [0, 1] rfl)⟩ rfl rfl hl.1 rfl (lv_room (Nat.le_of_ble_eq_true rfl)) d_Md_page_25 ⟨Nat.le_of_ble_eq_true rfl, Nat.le_of_ble_eq_true rfl⟩) ?_
  exact W.iret hx hb hr (fun t ht hW => ⟨rfl, ht⟩) (fun q h => by cases h) d_Md_page_28
set_option maxHeartbeats 4000000 in
set_option maxRecDepth 100000 in
theorem c_Md_page_1 (l : Launch) (dC : Nat → ClassId) (dI : Nat → Nat → Nat) (cT : Nat → ClassId) (h0 : Nat) (mS : Nat) (mQ : Nat) (gK : Nat) (gV : Nat) (gH : Nat) (mL : Nat) (mo : Bool) (gM : Nat) (mch : Nat) (mA : Nat) (mP : Nat) (gI : Nat) (gR : Nat) (gT : Nat) (gF : Nat) (gS : Nat) (gE : Nat) (gC : Nat) (mB : Nat) (ml : Int32) (mz : Int32) (pg : Nat) (mi : Nat → Nat) (hp : pg < 8) : Met l y_Md_page w_Md_page ({ frames := 1, cells := 0, slots := 0, locals := 21 } : Room) (zPreR (dC, dI) vwCl (zT cT) [.ref h0, .int (nI pg), .int (nI 1)] ([(h0, zoMd mS mQ gK gV gH mL mo gM mch mA mP gI gR gT gF gS gE gC mB ml mz), (gI, zaN (cT 0) 8 mi)])) (k2_QcV (.int (nI (mi pg)))) 0 0 (fun _ => False) := by
  refine Met.ofW (cc := b_Md_page) (maxL := 5) (ret := (some .int)) (by decide) rfl ?_
  intro p e s m args below meth c s₁ B hml hv
  obtain ⟨rfl, hP, hK, hE⟩ := hv
  have hx := B.exec
  have hb := B.bytes
  have hr := B.returns
  have hts := fun w h => atoms_spec (ws := w_Md_page) B.pre w (List.mem_cons_of_mem _ h)
  have hown : s.vm.findClass R_Md = some m.cls := findClass_of_methodNamed B.named
  have hlocks := B.notSynchronized
  have hl := lv_entry ([.ref h0, .int (nI pg), .int (nI 1)]) (n := 5) (Nat.le_of_ble_eq_true rfl)
  rw [lg_entry_eq]
  generalize (lg_sl ([.ref h0, .int (nI pg), .int (nI 1)]) ++ List.replicate (5 - (lg_sl ([.ref h0, .int (nI pg), .int (nI 1)])).length) Slot.unset).toArray = ls at hl ⊢
  have hl : lv_has ls 5 [(0, .ref h0), (1, .int (nI pg)), (2, .int (nI 1))] := hl
  refine lv_iload_n hx hb d_Md_page_0 rfl (lv_at hl 1 rfl) ?_
  refine lv_bipush (v := (nI 8)) hx hb d_Md_page_1 (by decide) ?_
  refine zw_R (r := .int (zb (isIn (nI pg) 8))) (va_runS (As := [.int (nI pg), .int (nI 8)]) (rest := []) ⟨hx, hb, hml, hown, hts⟩ (c_Md_in l dC dI cT (nI pg) 8) (va_cwS 2 hts (zgS wd_635 wd_636 wd_11 wd_637) rfl rfl rfl (by decide +kernel) ⟨Nat.le_of_ble_eq_true rfl, Nat.le_of_ble_eq_true rfl⟩) ⟨zPreR_blind, zp_R hK hE (zSub (X := [(h0, zoMd mS mQ gK gV gH mL mo gM mch mA mP gI gR gT gF gS gE gC mB ml mz), (gI, zaN (cT 0) 8 mi)]) (pl := []) hP [] rfl)⟩ rfl rfl hl.1 rfl (lv_room (Nat.le_of_ble_eq_true rfl)) d_Md_page_3 ⟨Nat.le_of_ble_eq_true rfl, Nat.le_of_ble_eq_true rfl⟩) ?_
  refine zb_if_eq (tgt := 17) hx hb d_Md_page_6 (by decide) (fun c_6 => absurd c_6 (by rw [isIn_nI (by decide) hp]; decide)) (fun c_6 => ?_)
  refine lv_iload_n hx hb d_Md_page_9 rfl (lv_at hl 2 rfl) ?_
  refine lv_iconst (v := (nI 4)) hx hb d_Md_page_10 (by decide) ?_
  refine zw_R (r := .int (zb (isIn (nI 1) 4))) (va_runS (As := [.int (nI 1), .int (nI 4)]) (rest := []) ⟨hx, hb, hml, hown, hts⟩ (c_Md_in l dC dI cT (nI 1) 4) (va_cwS 2 hts (zgS wd_635 wd_636 wd_11 wd_637) rfl rfl rfl (by decide +kernel) ⟨Nat.le_of_ble_eq_true rfl, Nat.le_of_ble_eq_true rfl⟩) ⟨zPreR_blind, zp_R hK hE (zSub (X := [(h0, zoMd mS mQ gK gV gH mL mo gM mch mA mP gI gR gT gF gS gE gC mB ml mz), (gI, zaN (cT 0) 8 mi)]) (pl := []) hP [] rfl)⟩ rfl rfl hl.1 rfl (lv_room (Nat.le_of_ble_eq_true rfl)) d_Md_page_11 ⟨Nat.le_of_ble_eq_true rfl, Nat.le_of_ble_eq_true rfl⟩) ?_
  refine zb_if_ne (tgt := 19) hx hb d_Md_page_14 (by decide) (fun c_14 => ?_) (fun c_14 => absurd c_14 (by decide))
  refine lv_iload_n hx hb d_Md_page_19 rfl (lv_at hl 2 rfl) ?_
  refine zn_if_ne (tgt := 29) hx hb (a := 1) (by omega) d_Md_page_20 (by decide) (fun c_20 => ?_) (fun c_20 => absurd c_20 (by omega))
  refine lv_iload_n hx hb d_Md_page_29 rfl (lv_at hl 2 rfl) ?_
  refine lv_iconst (v := (nI 1)) hx hb d_Md_page_30 (by decide) ?_
  refine zn_icmp_ne (tgt := 41) hx hb (a := 1) (b := 1) (by omega) (by omega) d_Md_page_31 (by decide) (fun c_31 => absurd c_31 (by omega)) (fun c_31 => ?_)
  refine lv_aload_n hx hb d_Md_page_34 rfl (lv_at hl 0 rfl) ?_
  refine va_get (D := (dC, dI)) (ci := 6) (v := .ref gI) (C := R_Md) (T := F_Md) (N := 21) hx hb hts i_Md hown hK hP 0 rfl rfl 11 (by decide) (hts _ wd_574) (fun _ h9 => h9) rfl d_Md_page_35 ?_
  refine lv_iload_n hx hb d_Md_page_38 rfl (lv_at hl 1 rfl) ?_
  refine zn_iald hx hb hK hP 1 0 rfl rfl (i := pg) (by omega) (by omega) d_Md_page_39 ?_
  exact W.iret hx hb hr (fun t ht hW => ⟨rfl, ht⟩) (fun q h => by cases h) d_Md_page_40
set_option maxHeartbeats 4000000 in
set_option maxRecDepth 100000 in
theorem c_Md_page_2 (l : Launch) (dC : Nat → ClassId) (dI : Nat → Nat → Nat) (cT : Nat → ClassId) (h0 : Nat) (mS : Nat) (mQ : Nat) (gK : Nat) (gV : Nat) (gH : Nat) (mL : Nat) (mo : Bool) (gM : Nat) (mch : Nat) (mA : Nat) (mP : Nat) (gI : Nat) (gR : Nat) (gT : Nat) (gF : Nat) (gS : Nat) (gE : Nat) (gC : Nat) (mB : Nat) (ml : Int32) (mz : Int32) (pg : Nat) (mr : Nat → Bool) (hp : pg < 8) : Met l y_Md_page w_Md_page ({ frames := 1, cells := 0, slots := 0, locals := 21 } : Room) (zPreR (dC, dI) vwCl (zT cT) [.ref h0, .int (nI pg), .int (nI 2)] ([(h0, zoMd mS mQ gK gV gH mL mo gM mch mA mP gI gR gT gF gS gE gC mB ml mz), (gR, zaZ (cT 2) 8 mr)])) (k2_QcV (.int (zb (mr pg)))) 0 0 (fun _ => False) := by
  refine Met.ofW (cc := b_Md_page) (maxL := 5) (ret := (some .int)) (by decide) rfl ?_
  intro p e s m args below meth c s₁ B hml hv
  obtain ⟨rfl, hP, hK, hE⟩ := hv
  have hx := B.exec
  have hb := B.bytes
  have hr := B.returns
  have hts := fun w h => atoms_spec (ws := w_Md_page) B.pre w (List.mem_cons_of_mem _ h)
  have hown : s.vm.findClass R_Md = some m.cls := findClass_of_methodNamed B.named
  have hlocks := B.notSynchronized
  have hl := lv_entry ([.ref h0, .int (nI pg), .int (nI 2)]) (n := 5) (Nat.le_of_ble_eq_true rfl)
  rw [lg_entry_eq]
  generalize (lg_sl ([.ref h0, .int (nI pg), .int (nI 2)]) ++ List.replicate (5 - (lg_sl ([.ref h0, .int (nI pg), .int (nI 2)])).length) Slot.unset).toArray = ls at hl ⊢
  have hl : lv_has ls 5 [(0, .ref h0), (1, .int (nI pg)), (2, .int (nI 2))] := hl
  refine lv_iload_n hx hb d_Md_page_0 rfl (lv_at hl 1 rfl) ?_
  refine lv_bipush (v := (nI 8)) hx hb d_Md_page_1 (by decide) ?_
  refine zw_R (r := .int (zb (isIn (nI pg) 8))) (va_runS (As := [.int (nI pg), .int (nI 8)]) (rest := []) ⟨hx, hb, hml, hown, hts⟩ (c_Md_in l dC dI cT (nI pg) 8) (va_cwS 2 hts (zgS wd_635 wd_636 wd_11 wd_637) rfl rfl rfl (by decide +kernel) ⟨Nat.le_of_ble_eq_true rfl, Nat.le_of_ble_eq_true rfl⟩) ⟨zPreR_blind, zp_R hK hE (zSub (X := [(h0, zoMd mS mQ gK gV gH mL mo gM mch mA mP gI gR gT gF gS gE gC mB ml mz), (gR, zaZ (cT 2) 8 mr)]) (pl := []) hP [] rfl)⟩ rfl rfl hl.1 rfl (lv_room (Nat.le_of_ble_eq_true rfl)) d_Md_page_3 ⟨Nat.le_of_ble_eq_true rfl, Nat.le_of_ble_eq_true rfl⟩) ?_
  refine zb_if_eq (tgt := 17) hx hb d_Md_page_6 (by decide) (fun c_6 => absurd c_6 (by rw [isIn_nI (by decide) hp]; decide)) (fun c_6 => ?_)
  refine lv_iload_n hx hb d_Md_page_9 rfl (lv_at hl 2 rfl) ?_
  refine lv_iconst (v := (nI 4)) hx hb d_Md_page_10 (by decide) ?_
  refine zw_R (r := .int (zb (isIn (nI 2) 4))) (va_runS (As := [.int (nI 2), .int (nI 4)]) (rest := []) ⟨hx, hb, hml, hown, hts⟩ (c_Md_in l dC dI cT (nI 2) 4) (va_cwS 2 hts (zgS wd_635 wd_636 wd_11 wd_637) rfl rfl rfl (by decide +kernel) ⟨Nat.le_of_ble_eq_true rfl, Nat.le_of_ble_eq_true rfl⟩) ⟨zPreR_blind, zp_R hK hE (zSub (X := [(h0, zoMd mS mQ gK gV gH mL mo gM mch mA mP gI gR gT gF gS gE gC mB ml mz), (gR, zaZ (cT 2) 8 mr)]) (pl := []) hP [] rfl)⟩ rfl rfl hl.1 rfl (lv_room (Nat.le_of_ble_eq_true rfl)) d_Md_page_11 ⟨Nat.le_of_ble_eq_true rfl, Nat.le_of_ble_eq_true rfl⟩) ?_
  refine zb_if_ne (tgt := 19) hx hb d_Md_page_14 (by decide) (fun c_14 => ?_) (fun c_14 => absurd c_14 (by decide))
  refine lv_iload_n hx hb d_Md_page_19 rfl (lv_at hl 2 rfl) ?_
  refine zn_if_ne (tgt := 29) hx hb (a := 2) (by omega) d_Md_page_20 (by decide) (fun c_20 => ?_) (fun c_20 => absurd c_20 (by omega))
  refine lv_iload_n hx hb d_Md_page_29 rfl (lv_at hl 2 rfl) ?_
  refine lv_iconst (v := (nI 1)) hx hb d_Md_page_30 (by decide) ?_
  refine zn_icmp_ne (tgt := 41) hx hb (a := 2) (b := 1) (by omega) (by omega) d_Md_page_31 (by decide) (fun c_31 => ?_) (fun c_31 => absurd c_31 (by omega))
  refine lv_iload_n hx hb d_Md_page_41 rfl (lv_at hl 2 rfl) ?_
  refine lv_iconst (v := (nI 2)) hx hb d_Md_page_42 (by decide) ?_
  refine zn_icmp_ne (tgt := 61) hx hb (a := 2) (b := 2) (by omega) (by omega) d_Md_page_43 (by decide) (fun c_43 => absurd c_43 (by omega)) (fun c_43 => ?_)
  refine lv_aload_n hx hb d_Md_page_46 rfl (lv_at hl 0 rfl) ?_
  refine va_get (D := (dC, dI)) (ci := 6) (v := .ref gR) (C := R_Md) (T := F_Md) (N := 21) hx hb hts i_Md hown hK hP 0 rfl rfl 12 (by decide) (hts _ wd_575) (fun _ h9 => h9) rfl d_Md_page_47 ?_
  refine lv_iload_n hx hb d_Md_page_50 rfl (lv_at hl 1 rfl) ?_
  refine zn_zald hx hb hK hP 1 2 rfl rfl (i := pg) (by omega) (by omega) d_Md_page_51 ?_
  refine zb_if_eq (tgt := 59) hx hb d_Md_page_52 (by decide) (fun c_52 => ?_) (fun c_52 => ?_)
  · refine lv_iconst (v := (nI 0)) hx hb d_Md_page_59 (by decide) ?_
    exact W.iret hx hb hr (fun t ht hW => ⟨by rw [c_52]; rfl, ht⟩) (fun q h => by cases h) d_Md_page_60
  · refine lv_iconst (v := (nI 1)) hx hb d_Md_page_55 (by decide) ?_
    refine lv_goto (tgt := 60) hx hb d_Md_page_56 (by decide) ?_
    exact W.iret hx hb hr (fun t ht hW => ⟨by rw [c_52]; rfl, ht⟩) (fun q h => by cases h) d_Md_page_60
set_option maxHeartbeats 4000000 in
set_option maxRecDepth 100000 in
theorem c_Md_page_3 (l : Launch) (dC : Nat → ClassId) (dI : Nat → Nat → Nat) (cT : Nat → ClassId) (h0 : Nat) (mS : Nat) (mQ : Nat) (gK : Nat) (gV : Nat) (gH : Nat) (mL : Nat) (mo : Bool) (gM : Nat) (mch : Nat) (mA : Nat) (mP : Nat) (gI : Nat) (gR : Nat) (gT : Nat) (gF : Nat) (gS : Nat) (gE : Nat) (gC : Nat) (mB : Nat) (ml : Int32) (mz : Int32) (pg : Nat) (mt : Nat → Bool) (cp : Nat → Int32) (hp : pg < 8) (hB : mB ≤ 256) : Met l y_Md_page w_Md_page ({ frames := 1, cells := 0, slots := 0, locals := 21 } : Room) (zPreR (dC, dI) vwCl (zT cT) [.ref h0, .int (nI pg), .int (nI 3)] ([(h0, zoMd mS mQ gK gV gH mL mo gM mch mA mP gI gR gT gF gS gE gC mB ml mz), (gT, zaZ (cT 2) 260 mt), (gC, zaI (cT 0) 2080 cp)])) (k2_QcV (.int (nI (zimk mt cp pg mB)))) 0 0 (fun _ => False) := by
  refine Met.ofW (cc := b_Md_page) (maxL := 5) (ret := (some .int)) (by decide) rfl ?_
  intro p e s m args below meth c s₁ B hml hv
  obtain ⟨rfl, hP, hK, hE⟩ := hv
  have hx := B.exec
  have hb := B.bytes
  have hr := B.returns
  have hts := fun w h => atoms_spec (ws := w_Md_page) B.pre w (List.mem_cons_of_mem _ h)
  have hown : s.vm.findClass R_Md = some m.cls := findClass_of_methodNamed B.named
  have hlocks := B.notSynchronized
  have hl := lv_entry ([.ref h0, .int (nI pg), .int (nI 3)]) (n := 5) (Nat.le_of_ble_eq_true rfl)
  rw [lg_entry_eq]
  generalize (lg_sl ([.ref h0, .int (nI pg), .int (nI 3)]) ++ List.replicate (5 - (lg_sl ([.ref h0, .int (nI pg), .int (nI 3)])).length) Slot.unset).toArray = ls at hl ⊢
  have hl : lv_has ls 5 [(0, .ref h0), (1, .int (nI pg)), (2, .int (nI 3))] := hl
  refine lv_iload_n hx hb d_Md_page_0 rfl (lv_at hl 1 rfl) ?_
  refine lv_bipush (v := (nI 8)) hx hb d_Md_page_1 (by decide) ?_
  refine zw_R (r := .int (zb (isIn (nI pg) 8))) (va_runS (As := [.int (nI pg), .int (nI 8)]) (rest := []) ⟨hx, hb, hml, hown, hts⟩ (c_Md_in l dC dI cT (nI pg) 8) (va_cwS 2 hts (zgS wd_635 wd_636 wd_11 wd_637) rfl rfl rfl (by decide +kernel) ⟨Nat.le_of_ble_eq_true rfl, Nat.le_of_ble_eq_true rfl⟩) ⟨zPreR_blind, zp_R hK hE (zSub (X := [(h0, zoMd mS mQ gK gV gH mL mo gM mch mA mP gI gR gT gF gS gE gC mB ml mz), (gT, zaZ (cT 2) 260 mt), (gC, zaI (cT 0) 2080 cp)]) (pl := []) hP [] rfl)⟩ rfl rfl hl.1 rfl (lv_room (Nat.le_of_ble_eq_true rfl)) d_Md_page_3 ⟨Nat.le_of_ble_eq_true rfl, Nat.le_of_ble_eq_true rfl⟩) ?_
  refine zb_if_eq (tgt := 17) hx hb d_Md_page_6 (by decide) (fun c_6 => absurd c_6 (by rw [isIn_nI (by decide) hp]; decide)) (fun c_6 => ?_)
  refine lv_iload_n hx hb d_Md_page_9 rfl (lv_at hl 2 rfl) ?_
  refine lv_iconst (v := (nI 4)) hx hb d_Md_page_10 (by decide) ?_
  refine zw_R (r := .int (zb (isIn (nI 3) 4))) (va_runS (As := [.int (nI 3), .int (nI 4)]) (rest := []) ⟨hx, hb, hml, hown, hts⟩ (c_Md_in l dC dI cT (nI 3) 4) (va_cwS 2 hts (zgS wd_635 wd_636 wd_11 wd_637) rfl rfl rfl (by decide +kernel) ⟨Nat.le_of_ble_eq_true rfl, Nat.le_of_ble_eq_true rfl⟩) ⟨zPreR_blind, zp_R hK hE (zSub (X := [(h0, zoMd mS mQ gK gV gH mL mo gM mch mA mP gI gR gT gF gS gE gC mB ml mz), (gT, zaZ (cT 2) 260 mt), (gC, zaI (cT 0) 2080 cp)]) (pl := []) hP [] rfl)⟩ rfl rfl hl.1 rfl (lv_room (Nat.le_of_ble_eq_true rfl)) d_Md_page_11 ⟨Nat.le_of_ble_eq_true rfl, Nat.le_of_ble_eq_true rfl⟩) ?_
  refine zb_if_ne (tgt := 19) hx hb d_Md_page_14 (by decide) (fun c_14 => ?_) (fun c_14 => absurd c_14 (by decide))
  refine lv_iload_n hx hb d_Md_page_19 rfl (lv_at hl 2 rfl) ?_
  refine zn_if_ne (tgt := 29) hx hb (a := 3) (by omega) d_Md_page_20 (by decide) (fun c_20 => ?_) (fun c_20 => absurd c_20 (by omega))
  refine lv_iload_n hx hb d_Md_page_29 rfl (lv_at hl 2 rfl) ?_
  refine lv_iconst (v := (nI 1)) hx hb d_Md_page_30 (by decide) ?_
  refine zn_icmp_ne (tgt := 41) hx hb (a := 3) (b := 1) (by omega) (by omega) d_Md_page_31 (by decide) (fun c_31 => ?_) (fun c_31 => absurd c_31 (by omega))
  refine lv_iload_n hx hb d_Md_page_41 rfl (lv_at hl 2 rfl) ?_
  refine lv_iconst (v := (nI 2)) hx hb d_Md_page_42 (by decide) ?_
  refine zn_icmp_ne (tgt := 61) hx hb (a := 3) (b := 2) (by omega) (by omega) d_Md_page_43 (by decide) (fun c_43 => ?_) (fun c_43 => absurd c_43 (by omega))
  refine lv_iconst (v := (nI 0)) hx hb d_Md_page_61 (by decide) ?_
  refine lv_istore_n (lv' := [(3, .int (nI 0)), (0, .ref h0), (1, .int (nI pg)), (2, .int (nI 3))]) hx hb d_Md_page_62 rfl hl (by decide) rfl (fun ls hl => ?_)
  refine lv_iconst (v := (nI 1)) hx hb d_Md_page_63 (by decide) ?_
  refine lv_istore (lv' := [(4, .int (nI 1)), (3, .int (nI 0)), (0, .ref h0), (1, .int (nI pg)), (2, .int (nI 3))]) hx hb d_Md_page_64 hl (by decide) rfl (fun ls hl => ?_)
  have loop_66 : ∀ (fu : Nat) (i : Nat) (n : Nat), mB + 1 - i < fu → (1 ≤ i) → (i ≤ mB + 1) → (n = zimk mt cp pg (i - 1)) → (n ≤ i) → ∀ (ls : Array Slot), lv_has ls 5 [(0, .ref h0), (1, .int (nI pg)), (3, .int (nI n)), (4, .int (nI i))] → W p l e (headSpec w_Md_page ({ frames := 1, cells := 0, slots := 0, locals := 21 } : Room)).room s m ([.ref h0, .int (nI pg), .int (nI 3)] : List Value).toArray below meth c s.heap [] 0 0 (MQ below (k2_QcV (.int (nI (zimk mt cp pg mB)))) ([.ref h0, .int (nI pg), .int (nI 3)] : List Value).toArray s 0 0 (fun _ => False)) (F0 m 66 ls []) := by
    intro fu
    induction fu with
    | zero => intro _ _ hm; exact absurd hm (Nat.not_lt_zero _)
    | succ fu ih_66 =>
      intro i n hm_66 h1 h2 h3 h4 ls hl
      refine lv_iload hx hb d_Md_page_66 (lv_at hl 3 rfl) ?_
      refine lv_aload_n hx hb d_Md_page_68 rfl (lv_at hl 0 rfl) ?_
      refine va_get (D := (dC, dI)) (ci := 6) (v := .int (nI mB)) (C := R_Md) (T := F_Md) (N := 21) hx hb hts i_Md hown hK hP 0 rfl rfl 18 (by decide) (hts _ wd_581) (fun _ h9 => h9) rfl d_Md_page_69 ?_
      refine zn_icmp_gt (tgt := 109) hx hb (a := i) (b := mB) (by omega) (by omega) d_Md_page_72 (by decide) (fun c_72 => ?_) (fun c_72 => ?_)
      · refine lv_iload_n hx hb d_Md_page_109 rfl (lv_at hl 2 rfl) ?_
        exact W.iret hx hb hr (fun t ht hW => ⟨by rw [h3, show i - 1 = mB by omega], ht⟩) (fun q h => by cases h) d_Md_page_110
      · refine lv_aload_n hx hb d_Md_page_75 rfl (lv_at hl 0 rfl) ?_
        refine va_get (D := (dC, dI)) (ci := 6) (v := .ref gT) (C := R_Md) (T := F_Md) (N := 21) hx hb hts i_Md hown hK hP 0 rfl rfl 13 (by decide) (hts _ wd_576) (fun _ h9 => h9) rfl d_Md_page_76 ?_
        refine lv_iload hx hb d_Md_page_79 (lv_at hl 3 rfl) ?_
        refine zn_zald hx hb hK hP 1 2 rfl rfl (i := i) (by omega) (by omega) d_Md_page_81 ?_
        refine zb_if_eq (tgt := 103) hx hb d_Md_page_82 (by decide) (fun c_82 => ?_) (fun c_82 => ?_)
        · refine lv_iinc (v := (nI (i + 1))) (lv' := [(4, .int (nI (i + 1))), (0, .ref h0), (1, .int (nI pg)), (3, .int (nI n))]) hx hb d_Md_page_103 hl (k := 3) rfl (nI_1 _) (by decide) rfl (fun ls hl => ?_)
          refine lv_goto (tgt := 66) hx hb d_Md_page_106 (by decide) ?_
          exact ih_66 (i + 1) n (by omega) (by first | omega | assumption) (by first | omega | assumption) (by rw [Nat.add_sub_cancel, zimk_pos (by omega), if_neg (fun q => by rw [c_82] at q; exact absurd q.1 (by decide)), h3]; rfl) (by omega) ls (lv_sub hl [1, 2, 3, 0] rfl)
        · refine lv_aload_n hx hb d_Md_page_85 rfl (lv_at hl 0 rfl) ?_
          refine va_get (D := (dC, dI)) (ci := 6) (v := .ref gC) (C := R_Md) (T := F_Md) (N := 21) hx hb hts i_Md hown hK hP 0 rfl rfl 17 (by decide) (hts _ wd_580) (fun _ h9 => h9) rfl d_Md_page_86 ?_
          refine lv_iload hx hb d_Md_page_89 (lv_at hl 3 rfl) ?_
          refine lv_bipush (v := (nI 8)) hx hb d_Md_page_91 (by decide) ?_
          refine zn_imul hx hb d_Md_page_93 ?_
          refine lv_iload_n hx hb d_Md_page_94 rfl (lv_at hl 1 rfl) ?_
          refine zn_iadd hx hb d_Md_page_95 ?_
          refine zn_iald hx hb hK hP 2 0 rfl rfl (i := (i * 8) + pg) (by omega) (by omega) d_Md_page_96 ?_
          refine lv_if_lt (tgt := 103) hx hb d_Md_page_97 (by decide) (fun c_97 => ?_) (fun c_97 => ?_)
          · refine lv_iinc (v := (nI (i + 1))) (lv' := [(4, .int (nI (i + 1))), (0, .ref h0), (1, .int (nI pg)), (3, .int (nI n))]) hx hb d_Md_page_103 hl (k := 3) rfl (nI_1 _) (by decide) rfl (fun ls hl => ?_)
            refine lv_goto (tgt := 66) hx hb d_Md_page_106 (by decide) ?_
            exact ih_66 (i + 1) n (by omega) (by first | omega | assumption) (by first | omega | assumption) (by rw [Nat.add_sub_cancel, zimk_pos (by omega), if_neg (fun q => q.2 c_97), h3]; rfl) (by omega) ls (lv_sub hl [1, 2, 3, 0] rfl)
          · refine lv_iinc (v := (nI (n + 1))) (lv' := [(3, .int (nI (n + 1))), (0, .ref h0), (1, .int (nI pg)), (4, .int (nI i))]) hx hb d_Md_page_100 hl (k := 2) rfl (nI_1 _) (by decide) rfl (fun ls hl => ?_)
            refine lv_iinc (v := (nI (i + 1))) (lv' := [(4, .int (nI (i + 1))), (3, .int (nI (n + 1))), (0, .ref h0), (1, .int (nI pg))]) hx hb d_Md_page_103 hl (k := 3) rfl (nI_1 _) (by decide) rfl (fun ls hl => ?_)
            refine lv_goto (tgt := 66) hx hb d_Md_page_106 (by decide) ?_
            exact ih_66 (i + 1) (n + 1) (by omega) (by first | omega | assumption) (by first | omega | assumption) (by rw [Nat.add_sub_cancel, zimk_pos (by omega), if_pos ⟨c_82, c_97⟩, h3]) (by omega) ls (lv_sub hl [2, 3, 1, 0] rfl)
  exact loop_66 (mB + 1 - 1 + 1) 1 0 (by omega) (by first | omega | assumption) (by first | omega | assumption) rfl (by omega) ls (lv_sub hl [2, 3, 1, 0] rfl)
set_option maxHeartbeats 4000000 in
set_option maxRecDepth 100000 in
theorem c_Md_ofBackup_ref (l : Launch) (dC : Nat → ClassId) (dI : Nat → Nat → Nat) (cT : Nat → ClassId) (h0 : Nat) (mS : Nat) (mQ : Nat) (gK : Nat) (gV : Nat) (gH : Nat) (mL : Nat) (mo : Bool) (gM : Nat) (mch : Nat) (mA : Nat) (mP : Nat) (gI : Nat) (gR : Nat) (gT : Nat) (gF : Nat) (gS : Nat) (gE : Nat) (gC : Nat) (mB : Nat) (ml : Int32) (mz : Int32) (k : Int32) (w : Int32) (hno : k < nI 1 ∨ nI mB < k ∨ isIn w 5 = false) : Met l y_Md_ofBackup w_Md_ofBackup ({ frames := 1, cells := 0, slots := 0, locals := 21 } : Room) (zPreR (dC, dI) vwCl (zT cT) [.ref h0, .int k, .int w] ([(h0, zoMd mS mQ gK gV gH mL mo gM mch mA mP gI gR gT gF gS gE gC mB ml mz)])) (k2_QcV (.int (-1))) 0 0 (fun _ => False) := by
  refine Met.ofW (cc := b_Md_ofBackup) (maxL := 5) (ret := (some .int)) (by decide) rfl ?_
  intro p e s m args below meth c s₁ B hml hv
  obtain ⟨rfl, hP, hK, hE⟩ := hv
  have hx := B.exec
  have hb := B.bytes
  have hr := B.returns
  have hts := fun w h => atoms_spec (ws := w_Md_ofBackup) B.pre w (List.mem_cons_of_mem _ h)
  have hown : s.vm.findClass R_Md = some m.cls := findClass_of_methodNamed B.named
  have hlocks := B.notSynchronized
  have hl := lv_entry ([.ref h0, .int k, .int w]) (n := 5) (Nat.le_of_ble_eq_true rfl)
  rw [lg_entry_eq]
  generalize (lg_sl ([.ref h0, .int k, .int w]) ++ List.replicate (5 - (lg_sl ([.ref h0, .int k, .int w])).length) Slot.unset).toArray = ls at hl ⊢
  have hl : lv_has ls 5 [(0, .ref h0), (1, .int k), (2, .int w)] := hl
  refine lv_iload_n hx hb d_Md_ofBackup_0 rfl (lv_at hl 1 rfl) ?_
  refine lv_iconst (v := (nI 1)) hx hb d_Md_ofBackup_1 (by decide) ?_
  refine lv_icmp_lt (tgt := 21) hx hb d_Md_ofBackup_2 (by decide) (fun c_2 => ?_) (fun c_2 => ?_)
  · refine lv_iconst (v := (-1)) hx hb d_Md_ofBackup_21 (by decide) ?_
    exact W.iret hx hb hr (fun t ht hW => ⟨rfl, ht⟩) (fun q h => by cases h) d_Md_ofBackup_22
  · refine lv_iload_n hx hb d_Md_ofBackup_5 rfl (lv_at hl 1 rfl) ?_
    refine lv_aload_n hx hb d_Md_ofBackup_6 rfl (lv_at hl 0 rfl) ?_
    refine va_get (D := (dC, dI)) (ci := 6) (v := .int (nI mB)) (C := R_Md) (T := F_Md) (N := 21) hx hb hts i_Md hown hK hP 0 rfl rfl 18 (by decide) (hts _ wd_581) (fun _ h9 => h9) rfl d_Md_ofBackup_7 ?_
    refine lv_icmp_gt (tgt := 21) hx hb d_Md_ofBackup_10 (by decide) (fun c_10 => ?_) (fun c_10 => ?_)
    · refine lv_iconst (v := (-1)) hx hb d_Md_ofBackup_21 (by decide) ?_
      exact W.iret hx hb hr (fun t ht hW => ⟨rfl, ht⟩) (fun q h => by cases h) d_Md_ofBackup_22
    · refine lv_iload_n hx hb d_Md_ofBackup_13 rfl (lv_at hl 2 rfl) ?_
      refine lv_iconst (v := (nI 5)) hx hb d_Md_ofBackup_14 (by decide) ?_
      refine zw_R (r := .int (zb (isIn w 5))) (va_runS (As := [.int w, .int (nI 5)]) (rest := []) ⟨hx, hb, hml, hown, hts⟩ (c_Md_in l dC dI cT w 5) (va_cwS 2 hts (zgS wd_635 wd_636 wd_11 wd_637) rfl rfl rfl (by decide +kernel) ⟨Nat.le_of_ble_eq_true rfl, Nat.le_of_ble_eq_true rfl⟩) ⟨zPreR_blind, zp_R hK hE (zSub (X := [(h0, zoMd mS mQ gK gV gH mL mo gM mch mA mP gI gR gT gF gS gE gC mB ml mz)]) (pl := []) hP [] rfl)⟩ rfl rfl hl.1 rfl (lv_room (Nat.le_of_ble_eq_true rfl)) d_Md_ofBackup_15 ⟨Nat.le_of_ble_eq_true rfl, Nat.le_of_ble_eq_true rfl⟩) ?_
      refine zb_if_ne (tgt := 23) hx hb d_Md_ofBackup_18 (by decide) (fun c_18 => ?_) (fun c_18 => ?_)
      · exact absurd hno (fun q => q.elim c_2 (fun q => q.elim c_10 (fun q => by rw [q] at c_18; exact absurd c_18 (by decide))))
      · refine lv_iconst (v := (-1)) hx hb d_Md_ofBackup_21 (by decide) ?_
        exact W.iret hx hb hr (fun t ht hW => ⟨rfl, ht⟩) (fun q h => by cases h) d_Md_ofBackup_22
set_option maxHeartbeats 4000000 in
set_option maxRecDepth 100000 in
theorem c_Md_ofBackup_0 (l : Launch) (dC : Nat → ClassId) (dI : Nat → Nat → Nat) (cT : Nat → ClassId) (h0 : Nat) (mS : Nat) (mQ : Nat) (gK : Nat) (gV : Nat) (gH : Nat) (mL : Nat) (mo : Bool) (gM : Nat) (mch : Nat) (mA : Nat) (mP : Nat) (gI : Nat) (gR : Nat) (gT : Nat) (gF : Nat) (gS : Nat) (gE : Nat) (gC : Nat) (mB : Nat) (ml : Int32) (mz : Int32) (b : Nat) (mt : Nat → Bool) (hB : mB ≤ 256) (hb1 : 1 ≤ b) (hb2 : b ≤ mB) : Met l y_Md_ofBackup w_Md_ofBackup ({ frames := 1, cells := 0, slots := 0, locals := 21 } : Room) (zPreR (dC, dI) vwCl (zT cT) [.ref h0, .int (nI b), .int (nI 0)] ([(h0, zoMd mS mQ gK gV gH mL mo gM mch mA mP gI gR gT gF gS gE gC mB ml mz), (gT, zaZ (cT 2) 260 mt)])) (k2_QcV (.int (zb (mt b)))) 0 0 (fun _ => False) := by
  refine Met.ofW (cc := b_Md_ofBackup) (maxL := 5) (ret := (some .int)) (by decide) rfl ?_
  intro p e s m args below meth c s₁ B hml hv
  obtain ⟨rfl, hP, hK, hE⟩ := hv
  have hx := B.exec
  have hb := B.bytes
  have hr := B.returns
  have hts := fun w h => atoms_spec (ws := w_Md_ofBackup) B.pre w (List.mem_cons_of_mem _ h)
  have hown : s.vm.findClass R_Md = some m.cls := findClass_of_methodNamed B.named
  have hlocks := B.notSynchronized
  have hl := lv_entry ([.ref h0, .int (nI b), .int (nI 0)]) (n := 5) (Nat.le_of_ble_eq_true rfl)
  rw [lg_entry_eq]
  generalize (lg_sl ([.ref h0, .int (nI b), .int (nI 0)]) ++ List.replicate (5 - (lg_sl ([.ref h0, .int (nI b), .int (nI 0)])).length) Slot.unset).toArray = ls at hl ⊢
  have hl : lv_has ls 5 [(0, .ref h0), (1, .int (nI b)), (2, .int (nI 0))] := hl
  refine lv_iload_n hx hb d_Md_ofBackup_0 rfl (lv_at hl 1 rfl) ?_
  refine lv_iconst (v := (nI 1)) hx hb d_Md_ofBackup_1 (by decide) ?_
  refine zn_icmp_lt (tgt := 21) hx hb (a := b) (b := 1) (by omega) (by omega) d_Md_ofBackup_2 (by decide) (fun c_2 => absurd c_2 (by omega)) (fun c_2 => ?_)
  refine lv_iload_n hx hb d_Md_ofBackup_5 rfl (lv_at hl 1 rfl) ?_
  refine lv_aload_n hx hb d_Md_ofBackup_6 rfl (lv_at hl 0 rfl) ?_
  refine va_get (D := (dC, dI)) (ci := 6) (v := .int (nI mB)) (C := R_Md) (T := F_Md) (N := 21) hx hb hts i_Md hown hK hP 0 rfl rfl 18 (by decide) (hts _ wd_581) (fun _ h9 => h9) rfl d_Md_ofBackup_7 ?_
  refine zn_icmp_gt (tgt := 21) hx hb (a := b) (b := mB) (by omega) (by omega) d_Md_ofBackup_10 (by decide) (fun c_10 => absurd c_10 (by omega)) (fun c_10 => ?_)
  refine lv_iload_n hx hb d_Md_ofBackup_13 rfl (lv_at hl 2 rfl) ?_
  refine lv_iconst (v := (nI 5)) hx hb d_Md_ofBackup_14 (by decide) ?_
  refine zw_R (r := .int (zb (isIn (nI 0) 5))) (va_runS (As := [.int (nI 0), .int (nI 5)]) (rest := []) ⟨hx, hb, hml, hown, hts⟩ (c_Md_in l dC dI cT (nI 0) 5) (va_cwS 2 hts (zgS wd_635 wd_636 wd_11 wd_637) rfl rfl rfl (by decide +kernel) ⟨Nat.le_of_ble_eq_true rfl, Nat.le_of_ble_eq_true rfl⟩) ⟨zPreR_blind, zp_R hK hE (zSub (X := [(h0, zoMd mS mQ gK gV gH mL mo gM mch mA mP gI gR gT gF gS gE gC mB ml mz), (gT, zaZ (cT 2) 260 mt)]) (pl := []) hP [] rfl)⟩ rfl rfl hl.1 rfl (lv_room (Nat.le_of_ble_eq_true rfl)) d_Md_ofBackup_15 ⟨Nat.le_of_ble_eq_true rfl, Nat.le_of_ble_eq_true rfl⟩) ?_
  refine zb_if_ne (tgt := 23) hx hb d_Md_ofBackup_18 (by decide) (fun c_18 => ?_) (fun c_18 => absurd c_18 (by decide))
  refine lv_iload_n hx hb d_Md_ofBackup_23 rfl (lv_at hl 2 rfl) ?_
  refine zn_if_ne (tgt := 42) hx hb (a := 0) (by omega) d_Md_ofBackup_24 (by decide) (fun c_24 => absurd c_24 (by omega)) (fun c_24 => ?_)
  refine lv_aload_n hx hb d_Md_ofBackup_27 rfl (lv_at hl 0 rfl) ?_
  refine va_get (D := (dC, dI)) (ci := 6) (v := .ref gT) (C := R_Md) (T := F_Md) (N := 21) hx hb hts i_Md hown hK hP 0 rfl rfl 13 (by decide) (hts _ wd_576) (fun _ h9 => h9) rfl d_Md_ofBackup_28 ?_
  refine lv_iload_n hx hb d_Md_ofBackup_31 rfl (lv_at hl 1 rfl) ?_
  refine zn_zald hx hb hK hP 1 2 rfl rfl (i := b) (by omega) (by omega) d_Md_ofBackup_32 ?_
  refine zb_if_eq (tgt := 40) hx hb d_Md_ofBackup_33 (by decide) (fun c_33 => ?_) (fun c_33 => ?_)
  · refine lv_iconst (v := (nI 0)) hx hb d_Md_ofBackup_40 (by decide) ?_
    exact W.iret hx hb hr (fun t ht hW => ⟨by rw [c_33]; rfl, ht⟩) (fun q h => by cases h) d_Md_ofBackup_41
  · refine lv_iconst (v := (nI 1)) hx hb d_Md_ofBackup_36 (by decide) ?_
    refine lv_goto (tgt := 41) hx hb d_Md_ofBackup_37 (by decide) ?_
    exact W.iret hx hb hr (fun t ht hW => ⟨by rw [c_33]; rfl, ht⟩) (fun q h => by cases h) d_Md_ofBackup_41
set_option maxHeartbeats 4000000 in
set_option maxRecDepth 100000 in
theorem c_Md_ofBackup_1 (l : Launch) (dC : Nat → ClassId) (dI : Nat → Nat → Nat) (cT : Nat → ClassId) (h0 : Nat) (mS : Nat) (mQ : Nat) (gK : Nat) (gV : Nat) (gH : Nat) (mL : Nat) (mo : Bool) (gM : Nat) (mch : Nat) (mA : Nat) (mP : Nat) (gI : Nat) (gR : Nat) (gT : Nat) (gF : Nat) (gS : Nat) (gE : Nat) (gC : Nat) (mB : Nat) (ml : Int32) (mz : Int32) (b : Nat) (mf : Nat → Bool) (hB : mB ≤ 256) (hb1 : 1 ≤ b) (hb2 : b ≤ mB) : Met l y_Md_ofBackup w_Md_ofBackup ({ frames := 1, cells := 0, slots := 0, locals := 21 } : Room) (zPreR (dC, dI) vwCl (zT cT) [.ref h0, .int (nI b), .int (nI 1)] ([(h0, zoMd mS mQ gK gV gH mL mo gM mch mA mP gI gR gT gF gS gE gC mB ml mz), (gF, zaZ (cT 2) 260 mf)])) (k2_QcV (.int (zb (mf b)))) 0 0 (fun _ => False) := by
  refine Met.ofW (cc := b_Md_ofBackup) (maxL := 5) (ret := (some .int)) (by decide) rfl ?_
  intro p e s m args below meth c s₁ B hml hv
  obtain ⟨rfl, hP, hK, hE⟩ := hv
  have hx := B.exec
  have hb := B.bytes
  have hr := B.returns
  have hts := fun w h => atoms_spec (ws := w_Md_ofBackup) B.pre w (List.mem_cons_of_mem _ h)
  have hown : s.vm.findClass R_Md = some m.cls := findClass_of_methodNamed B.named
  have hlocks := B.notSynchronized
  have hl := lv_entry ([.ref h0, .int (nI b), .int (nI 1)]) (n := 5) (Nat.le_of_ble_eq_true rfl)
  rw [lg_entry_eq]
  generalize (lg_sl ([.ref h0, .int (nI b), .int (nI 1)]) ++ List.replicate (5 - (lg_sl ([.ref h0, .int (nI b), .int (nI 1)])).length) Slot.unset).toArray = ls at hl ⊢
  have hl : lv_has ls 5 [(0, .ref h0), (1, .int (nI b)), (2, .int (nI 1))] := hl
  refine lv_iload_n hx hb d_Md_ofBackup_0 rfl (lv_at hl 1 rfl) ?_
  refine lv_iconst (v := (nI 1)) hx hb d_Md_ofBackup_1 (by decide) ?_
  refine zn_icmp_lt (tgt := 21) hx hb (a := b) (b := 1) (by omega) (by omega) d_Md_ofBackup_2 (by decide) (fun c_2 => absurd c_2 (by omega)) (fun c_2 => ?_)
  refine lv_iload_n hx hb d_Md_ofBackup_5 rfl (lv_at hl 1 rfl) ?_
  refine lv_aload_n hx hb d_Md_ofBackup_6 rfl (lv_at hl 0 rfl) ?_
  refine va_get (D := (dC, dI)) (ci := 6) (v := .int (nI mB)) (C := R_Md) (T := F_Md) (N := 21) hx hb hts i_Md hown hK hP 0 rfl rfl 18 (by decide) (hts _ wd_581) (fun _ h9 => h9) rfl d_Md_ofBackup_7 ?_
  refine zn_icmp_gt (tgt := 21) hx hb (a := b) (b := mB) (by omega) (by omega) d_Md_ofBackup_10 (by decide) (fun c_10 => absurd c_10 (by omega)) (fun c_10 => ?_)
  refine lv_iload_n hx hb d_Md_ofBackup_13 rfl (lv_at hl 2 rfl) ?_
  refine lv_iconst (v := (nI 5)) hx hb d_Md_ofBackup_14 (by decide) ?_
  refine zw_R (r := .int (zb (isIn (nI 1) 5))) (va_runS (As := [.int (nI 1), .int (nI 5)]) (rest := []) ⟨hx, hb, hml, hown, hts⟩ (c_Md_in l dC dI cT (nI 1) 5) (va_cwS 2 hts (zgS wd_635 wd_636 wd_11 wd_637) rfl rfl rfl (by decide +kernel) ⟨Nat.le_of_ble_eq_true rfl, Nat.le_of_ble_eq_true rfl⟩) ⟨zPreR_blind, zp_R hK hE (zSub (X := [(h0, zoMd mS mQ gK gV gH mL mo gM mch mA mP gI gR gT gF gS gE gC mB ml mz), (gF, zaZ (cT 2) 260 mf)]) (pl := []) hP [] rfl)⟩ rfl rfl hl.1 rfl (lv_room (Nat.le_of_ble_eq_true rfl)) d_Md_ofBackup_15 ⟨Nat.le_of_ble_eq_true rfl, Nat.le_of_ble_eq_true rfl⟩) ?_
  refine zb_if_ne (tgt := 23) hx hb d_Md_ofBackup_18 (by decide) (fun c_18 => ?_) (fun c_18 => absurd c_18 (by decide))
  refine lv_iload_n hx hb d_Md_ofBackup_23 rfl (lv_at hl 2 rfl) ?_
  refine zn_if_ne (tgt := 42) hx hb (a := 1) (by omega) d_Md_ofBackup_24 (by decide) (fun c_24 => ?_) (fun c_24 => absurd c_24 (by omega))
  refine lv_iload_n hx hb d_Md_ofBackup_42 rfl (lv_at hl 2 rfl) ?_
  refine lv_iconst (v := (nI 1)) hx hb d_Md_ofBackup_43 (by decide) ?_
  refine zn_icmp_ne (tgt := 62) hx hb (a := 1) (b := 1) (by omega) (by omega) d_Md_ofBackup_44 (by decide) (fun c_44 => absurd c_44 (by omega)) (fun c_44 => ?_)
  refine lv_aload_n hx hb d_Md_ofBackup_47 rfl (lv_at hl 0 rfl) ?_
  refine va_get (D := (dC, dI)) (ci := 6) (v := .ref gF) (C := R_Md) (T := F_Md) (N := 21) hx hb hts i_Md hown hK hP 0 rfl rfl 14 (by decide) (hts _ wd_577) (fun _ h9 => h9) rfl d_Md_ofBackup_48 ?_
  refine lv_iload_n hx hb d_Md_ofBackup_51 rfl (lv_at hl 1 rfl) ?_
  refine zn_zald hx hb hK hP 1 2 rfl rfl (i := b) (by omega) (by omega) d_Md_ofBackup_52 ?_
  refine zb_if_eq (tgt := 60) hx hb d_Md_ofBackup_53 (by decide) (fun c_53 => ?_) (fun c_53 => ?_)
  · refine lv_iconst (v := (nI 0)) hx hb d_Md_ofBackup_60 (by decide) ?_
    exact W.iret hx hb hr (fun t ht hW => ⟨by rw [c_53]; rfl, ht⟩) (fun q h => by cases h) d_Md_ofBackup_61
  · refine lv_iconst (v := (nI 1)) hx hb d_Md_ofBackup_56 (by decide) ?_
    refine lv_goto (tgt := 61) hx hb d_Md_ofBackup_57 (by decide) ?_
    exact W.iret hx hb hr (fun t ht hW => ⟨by rw [c_53]; rfl, ht⟩) (fun q h => by cases h) d_Md_ofBackup_61
set_option maxHeartbeats 4000000 in
set_option maxRecDepth 100000 in
theorem c_Md_ofBackup_2 (l : Launch) (dC : Nat → ClassId) (dI : Nat → Nat → Nat) (cT : Nat → ClassId) (h0 : Nat) (mS : Nat) (mQ : Nat) (gK : Nat) (gV : Nat) (gH : Nat) (mL : Nat) (mo : Bool) (gM : Nat) (mch : Nat) (mA : Nat) (mP : Nat) (gI : Nat) (gR : Nat) (gT : Nat) (gF : Nat) (gS : Nat) (gE : Nat) (gC : Nat) (mB : Nat) (ml : Int32) (mz : Int32) (b : Nat) (mst : Nat → Nat) (hB : mB ≤ 256) (hb1 : 1 ≤ b) (hb2 : b ≤ mB) : Met l y_Md_ofBackup w_Md_ofBackup ({ frames := 1, cells := 0, slots := 0, locals := 21 } : Room) (zPreR (dC, dI) vwCl (zT cT) [.ref h0, .int (nI b), .int (nI 2)] ([(h0, zoMd mS mQ gK gV gH mL mo gM mch mA mP gI gR gT gF gS gE gC mB ml mz), (gS, zaN (cT 0) 260 mst)])) (k2_QcV (.int (nI (mst b)))) 0 0 (fun _ => False) := by
  refine Met.ofW (cc := b_Md_ofBackup) (maxL := 5) (ret := (some .int)) (by decide) rfl ?_
  intro p e s m args below meth c s₁ B hml hv
  obtain ⟨rfl, hP, hK, hE⟩ := hv
  have hx := B.exec
  have hb := B.bytes
  have hr := B.returns
  have hts := fun w h => atoms_spec (ws := w_Md_ofBackup) B.pre w (List.mem_cons_of_mem _ h)
  have hown : s.vm.findClass R_Md = some m.cls := findClass_of_methodNamed B.named
  have hlocks := B.notSynchronized
  have hl := lv_entry ([.ref h0, .int (nI b), .int (nI 2)]) (n := 5) (Nat.le_of_ble_eq_true rfl)
  rw [lg_entry_eq]
  generalize (lg_sl ([.ref h0, .int (nI b), .int (nI 2)]) ++ List.replicate (5 - (lg_sl ([.ref h0, .int (nI b), .int (nI 2)])).length) Slot.unset).toArray = ls at hl ⊢
  have hl : lv_has ls 5 [(0, .ref h0), (1, .int (nI b)), (2, .int (nI 2))] := hl
  refine lv_iload_n hx hb d_Md_ofBackup_0 rfl (lv_at hl 1 rfl) ?_
  refine lv_iconst (v := (nI 1)) hx hb d_Md_ofBackup_1 (by decide) ?_
  refine zn_icmp_lt (tgt := 21) hx hb (a := b) (b := 1) (by omega) (by omega) d_Md_ofBackup_2 (by decide) (fun c_2 => absurd c_2 (by omega)) (fun c_2 => ?_)
  refine lv_iload_n hx hb d_Md_ofBackup_5 rfl (lv_at hl 1 rfl) ?_
  refine lv_aload_n hx hb d_Md_ofBackup_6 rfl (lv_at hl 0 rfl) ?_
  refine va_get (D := (dC, dI)) (ci := 6) (v := .int (nI mB)) (C := R_Md) (T := F_Md) (N := 21) hx hb hts i_Md hown hK hP 0 rfl rfl 18 (by decide) (hts _ wd_581) (fun _ h9 => h9) rfl d_Md_ofBackup_7 ?_
  refine zn_icmp_gt (tgt := 21) hx hb (a := b) (b := mB) (by omega) (by omega) d_Md_ofBackup_10 (by decide) (fun c_10 => absurd c_10 (by omega)) (fun c_10 => ?_)
  refine lv_iload_n hx hb d_Md_ofBackup_13 rfl (lv_at hl 2 rfl) ?_
  refine lv_iconst (v := (nI 5)) hx hb d_Md_ofBackup_14 (by decide) ?_
  refine zw_R (r := .int (zb (isIn (nI 2) 5))) (va_runS (As := [.int (nI 2), .int (nI 5)]) (rest := []) ⟨hx, hb, hml, hown, hts⟩ (c_Md_in l dC dI cT (nI 2) 5) (va_cwS 2 hts (zgS wd_635 wd_636 wd_11 wd_637) rfl rfl rfl (by decide +kernel) ⟨Nat.le_of_ble_eq_true rfl, Nat.le_of_ble_eq_true rfl⟩) ⟨zPreR_blind, zp_R hK hE (zSub (X := [(h0, zoMd mS mQ gK gV gH mL mo gM mch mA mP gI gR gT gF gS gE gC mB ml mz), (gS, zaN (cT 0) 260 mst)]) (pl := []) hP [] rfl)⟩ rfl rfl hl.1 rfl (lv_room (Nat.le_of_ble_eq_true rfl)) d_Md_ofBackup_15 ⟨Nat.le_of_ble_eq_true rfl, Nat.le_of_ble_eq_true rfl⟩) ?_
  refine zb_if_ne (tgt := 23) hx hb d_Md_ofBackup_18 (by decide) (fun c_18 => ?_) (fun c_18 => absurd c_18 (by decide))
  refine lv_iload_n hx hb d_Md_ofBackup_23 rfl (lv_at hl 2 rfl) ?_
  refine zn_if_ne (tgt := 42) hx hb (a := 2) (by omega) d_Md_ofBackup_24 (by decide) (fun c_24 => ?_) (fun c_24 => absurd c_24 (by omega))
  refine lv_iload_n hx hb d_Md_ofBackup_42 rfl (lv_at hl 2 rfl) ?_
  refine lv_iconst (v := (nI 1)) hx hb d_Md_ofBackup_43 (by decide) ?_
  refine zn_icmp_ne (tgt := 62) hx hb (a := 2) (b := 1) (by omega) (by omega) d_Md_ofBackup_44 (by decide) (fun c_44 => ?_) (fun c_44 => absurd c_44 (by omega))
  refine lv_iload_n hx hb d_Md_ofBackup_62 rfl (lv_at hl 2 rfl) ?_
  refine lv_iconst (v := (nI 2)) hx hb d_Md_ofBackup_63 (by decide) ?_
  refine zn_icmp_ne (tgt := 74) hx hb (a := 2) (b := 2) (by omega) (by omega) d_Md_ofBackup_64 (by decide) (fun c_64 => absurd c_64 (by omega)) (fun c_64 => ?_)
  refine lv_aload_n hx hb d_Md_ofBackup_67 rfl (lv_at hl 0 rfl) ?_
  refine va_get (D := (dC, dI)) (ci := 6) (v := .ref gS) (C := R_Md) (T := F_Md) (N := 21) hx hb hts i_Md hown hK hP 0 rfl rfl 15 (by decide) (hts _ wd_578) (fun _ h9 => h9) rfl d_Md_ofBackup_68 ?_
  refine lv_iload_n hx hb d_Md_ofBackup_71 rfl (lv_at hl 1 rfl) ?_
  refine zn_iald hx hb hK hP 1 0 rfl rfl (i := b) (by omega) (by omega) d_Md_ofBackup_72 ?_
  exact W.iret hx hb hr (fun t ht hW => ⟨rfl, ht⟩) (fun q h => by cases h) d_Md_ofBackup_73
set_option maxHeartbeats 4000000 in
set_option maxRecDepth 100000 in
theorem c_Md_ofBackup_3 (l : Launch) (dC : Nat → ClassId) (dI : Nat → Nat → Nat) (cT : Nat → ClassId) (h0 : Nat) (mS : Nat) (mQ : Nat) (gK : Nat) (gV : Nat) (gH : Nat) (mL : Nat) (mo : Bool) (gM : Nat) (mch : Nat) (mA : Nat) (mP : Nat) (gI : Nat) (gR : Nat) (gT : Nat) (gF : Nat) (gS : Nat) (gE : Nat) (gC : Nat) (mB : Nat) (ml : Int32) (mz : Int32) (b : Nat) (me : Nat → Nat) (hB : mB ≤ 256) (hb1 : 1 ≤ b) (hb2 : b ≤ mB) : Met l y_Md_ofBackup w_Md_ofBackup ({ frames := 1, cells := 0, slots := 0, locals := 21 } : Room) (zPreR (dC, dI) vwCl (zT cT) [.ref h0, .int (nI b), .int (nI 3)] ([(h0, zoMd mS mQ gK gV gH mL mo gM mch mA mP gI gR gT gF gS gE gC mB ml mz), (gE, zaN (cT 0) 260 me)])) (k2_QcV (.int (nI (me b)))) 0 0 (fun _ => False) := by
  refine Met.ofW (cc := b_Md_ofBackup) (maxL := 5) (ret := (some .int)) (by decide) rfl ?_
  intro p e s m args below meth c s₁ B hml hv
  obtain ⟨rfl, hP, hK, hE⟩ := hv
  have hx := B.exec
  have hb := B.bytes
  have hr := B.returns
  have hts := fun w h => atoms_spec (ws := w_Md_ofBackup) B.pre w (List.mem_cons_of_mem _ h)
  have hown : s.vm.findClass R_Md = some m.cls := findClass_of_methodNamed B.named
  have hlocks := B.notSynchronized
  have hl := lv_entry ([.ref h0, .int (nI b), .int (nI 3)]) (n := 5) (Nat.le_of_ble_eq_true rfl)
  rw [lg_entry_eq]
  generalize (lg_sl ([.ref h0, .int (nI b), .int (nI 3)]) ++ List.replicate (5 - (lg_sl ([.ref h0, .int (nI b), .int (nI 3)])).length) Slot.unset).toArray = ls at hl ⊢
  have hl : lv_has ls 5 [(0, .ref h0), (1, .int (nI b)), (2, .int (nI 3))] := hl
  refine lv_iload_n hx hb d_Md_ofBackup_0 rfl (lv_at hl 1 rfl) ?_
  refine lv_iconst (v := (nI 1)) hx hb d_Md_ofBackup_1 (by decide) ?_
  refine zn_icmp_lt (tgt := 21) hx hb (a := b) (b := 1) (by omega) (by omega) d_Md_ofBackup_2 (by decide) (fun c_2 => absurd c_2 (by omega)) (fun c_2 => ?_)
  refine lv_iload_n hx hb d_Md_ofBackup_5 rfl (lv_at hl 1 rfl) ?_
  refine lv_aload_n hx hb d_Md_ofBackup_6 rfl (lv_at hl 0 rfl) ?_
  refine va_get (D := (dC, dI)) (ci := 6) (v := .int (nI mB)) (C := R_Md) (T := F_Md) (N := 21) hx hb hts i_Md hown hK hP 0 rfl rfl 18 (by decide) (hts _ wd_581) (fun _ h9 => h9) rfl d_Md_ofBackup_7 ?_
  refine zn_icmp_gt (tgt := 21) hx hb (a := b) (b := mB) (by omega) (by omega) d_Md_ofBackup_10 (by decide) (fun c_10 => absurd c_10 (by omega)) (fun c_10 => ?_)
  refine lv_iload_n hx hb d_Md_ofBackup_13 rfl (lv_at hl 2 rfl) ?_
  refine lv_iconst (v := (nI 5)) hx hb d_Md_ofBackup_14 (by decide) ?_
  refine zw_R (r := .int (zb (isIn (nI 3) 5))) (va_runS (As := [.int (nI 3), .int (nI 5)]) (rest := []) ⟨hx, hb, hml, hown, hts⟩ (c_Md_in l dC dI cT (nI 3) 5) (va_cwS 2 hts (zgS wd_635 wd_636 wd_11 wd_637) rfl rfl rfl (by decide +kernel) ⟨Nat.le_of_ble_eq_true rfl, Nat.le_of_ble_eq_true rfl⟩) ⟨zPreR_blind, zp_R hK hE (zSub (X := [(h0, zoMd mS mQ gK gV gH mL mo gM mch mA mP gI gR gT gF gS gE gC mB ml mz), (gE, zaN (cT 0) 260 me)]) (pl := []) hP [] rfl)⟩ rfl rfl hl.1 rfl (lv_room (Nat.le_of_ble_eq_true rfl)) d_Md_ofBackup_15 ⟨Nat.le_of_ble_eq_true rfl, Nat.le_of_ble_eq_true rfl⟩) ?_
  refine zb_if_ne (tgt := 23) hx hb d_Md_ofBackup_18 (by decide) (fun c_18 => ?_) (fun c_18 => absurd c_18 (by decide))
  refine lv_iload_n hx hb d_Md_ofBackup_23 rfl (lv_at hl 2 rfl) ?_
  refine zn_if_ne (tgt := 42) hx hb (a := 3) (by omega) d_Md_ofBackup_24 (by decide) (fun c_24 => ?_) (fun c_24 => absurd c_24 (by omega))
  refine lv_iload_n hx hb d_Md_ofBackup_42 rfl (lv_at hl 2 rfl) ?_
  refine lv_iconst (v := (nI 1)) hx hb d_Md_ofBackup_43 (by decide) ?_
  refine zn_icmp_ne (tgt := 62) hx hb (a := 3) (b := 1) (by omega) (by omega) d_Md_ofBackup_44 (by decide) (fun c_44 => ?_) (fun c_44 => absurd c_44 (by omega))
  refine lv_iload_n hx hb d_Md_ofBackup_62 rfl (lv_at hl 2 rfl) ?_
  refine lv_iconst (v := (nI 2)) hx hb d_Md_ofBackup_63 (by decide) ?_
  refine zn_icmp_ne (tgt := 74) hx hb (a := 3) (b := 2) (by omega) (by omega) d_Md_ofBackup_64 (by decide) (fun c_64 => ?_) (fun c_64 => absurd c_64 (by omega))
  refine lv_iload_n hx hb d_Md_ofBackup_74 rfl (lv_at hl 2 rfl) ?_
  refine lv_iconst (v := (nI 3)) hx hb d_Md_ofBackup_75 (by decide) ?_
  refine zn_icmp_ne (tgt := 86) hx hb (a := 3) (b := 3) (by omega) (by omega) d_Md_ofBackup_76 (by decide) (fun c_76 => absurd c_76 (by omega)) (fun c_76 => ?_)
  refine lv_aload_n hx hb d_Md_ofBackup_79 rfl (lv_at hl 0 rfl) ?_
  refine va_get (D := (dC, dI)) (ci := 6) (v := .ref gE) (C := R_Md) (T := F_Md) (N := 21) hx hb hts i_Md hown hK hP 0 rfl rfl 16 (by decide) (hts _ wd_579) (fun _ h9 => h9) rfl d_Md_ofBackup_80 ?_
  refine lv_iload_n hx hb d_Md_ofBackup_83 rfl (lv_at hl 1 rfl) ?_
  refine zn_iald hx hb hK hP 1 0 rfl rfl (i := b) (by omega) (by omega) d_Md_ofBackup_84 ?_
  exact W.iret hx hb hr (fun t ht hW => ⟨rfl, ht⟩) (fun q h => by cases h) d_Md_ofBackup_85
set_option maxHeartbeats 4000000 in
set_option maxRecDepth 100000 in
theorem c_Md_ofBackup_4 (l : Launch) (dC : Nat → ClassId) (dI : Nat → Nat → Nat) (cT : Nat → ClassId) (h0 : Nat) (mS : Nat) (mQ : Nat) (gK : Nat) (gV : Nat) (gH : Nat) (mL : Nat) (mo : Bool) (gM : Nat) (mch : Nat) (mA : Nat) (mP : Nat) (gI : Nat) (gR : Nat) (gT : Nat) (gF : Nat) (gS : Nat) (gE : Nat) (gC : Nat) (mB : Nat) (ml : Int32) (mz : Int32) (b : Nat) (cp : Nat → Int32) (hB : mB ≤ 256) (hb1 : 1 ≤ b) (hb2 : b ≤ mB) : Met l y_Md_ofBackup w_Md_ofBackup ({ frames := 1, cells := 0, slots := 0, locals := 21 } : Room) (zPreR (dC, dI) vwCl (zT cT) [.ref h0, .int (nI b), .int (nI 4)] ([(h0, zoMd mS mQ gK gV gH mL mo gM mch mA mP gI gR gT gF gS gE gC mB ml mz), (gC, zaI (cT 0) 2080 cp)])) (k2_QcV (.int (nI (zimb cp b 8)))) 0 0 (fun _ => False) := by
  refine Met.ofW (cc := b_Md_ofBackup) (maxL := 5) (ret := (some .int)) (by decide) rfl ?_
  intro p e s m args below meth c s₁ B hml hv
  obtain ⟨rfl, hP, hK, hE⟩ := hv
  have hx := B.exec
  have hb := B.bytes
  have hr := B.returns
  have hts := fun w h => atoms_spec (ws := w_Md_ofBackup) B.pre w (List.mem_cons_of_mem _ h)
  have hown : s.vm.findClass R_Md = some m.cls := findClass_of_methodNamed B.named
  have hlocks := B.notSynchronized
  have hl := lv_entry ([.ref h0, .int (nI b), .int (nI 4)]) (n := 5) (Nat.le_of_ble_eq_true rfl)
  rw [lg_entry_eq]
  generalize (lg_sl ([.ref h0, .int (nI b), .int (nI 4)]) ++ List.replicate (5 - (lg_sl ([.ref h0, .int (nI b), .int (nI 4)])).length) Slot.unset).toArray = ls at hl ⊢
  have hl : lv_has ls 5 [(0, .ref h0), (1, .int (nI b)), (2, .int (nI 4))] := hl
  refine lv_iload_n hx hb d_Md_ofBackup_0 rfl (lv_at hl 1 rfl) ?_
  refine lv_iconst (v := (nI 1)) hx hb d_Md_ofBackup_1 (by decide) ?_
  refine zn_icmp_lt (tgt := 21) hx hb (a := b) (b := 1) (by omega) (by omega) d_Md_ofBackup_2 (by decide) (fun c_2 => absurd c_2 (by omega)) (fun c_2 => ?_)
  refine lv_iload_n hx hb d_Md_ofBackup_5 rfl (lv_at hl 1 rfl) ?_
  refine lv_aload_n hx hb d_Md_ofBackup_6 rfl (lv_at hl 0 rfl) ?_
  refine va_get (D := (dC, dI)) (ci := 6) (v := .int (nI mB)) (C := R_Md) (T := F_Md) (N := 21) hx hb hts i_Md hown hK hP 0 rfl rfl 18 (by decide) (hts _ wd_581) (fun _ h9 => h9) rfl d_Md_ofBackup_7 ?_
  refine zn_icmp_gt (tgt := 21) hx hb (a := b) (b := mB) (by omega) (by omega) d_Md_ofBackup_10 (by decide) (fun c_10 => absurd c_10 (by omega)) (fun c_10 => ?_)
  refine lv_iload_n hx hb d_Md_ofBackup_13 rfl (lv_at hl 2 rfl) ?_
  refine lv_iconst (v := (nI 5)) hx hb d_Md_ofBackup_14 (by decide) ?_
  refine zw_R (r := .int (zb (isIn (nI 4) 5))) (va_runS (As := [.int (nI 4), .int (nI 5)]) (rest := []) ⟨hx, hb, hml, hown, hts⟩ (c_Md_in l dC dI cT (nI 4) 5) (va_cwS 2 hts (zgS wd_635 wd_636 wd_11 wd_637) rfl rfl rfl (by decide +kernel) ⟨Nat.le_of_ble_eq_true rfl, Nat.le_of_ble_eq_true rfl⟩) ⟨zPreR_blind, zp_R hK hE (zSub (X := [(h0, zoMd mS mQ gK gV gH mL mo gM mch mA mP gI gR gT gF gS gE gC mB ml mz), (gC, zaI (cT 0) 2080 cp)]) (pl := []) hP [] rfl)⟩ rfl rfl hl.1 rfl (lv_room (Nat.le_of_ble_eq_true rfl)) d_Md_ofBackup_15 ⟨Nat.le_of_ble_eq_true rfl, Nat.le_of_ble_eq_true rfl⟩) ?_
  refine zb_if_ne (tgt := 23) hx hb d_Md_ofBackup_18 (by decide) (fun c_18 => ?_) (fun c_18 => absurd c_18 (by decide))
  refine lv_iload_n hx hb d_Md_ofBackup_23 rfl (lv_at hl 2 rfl) ?_
  refine zn_if_ne (tgt := 42) hx hb (a := 4) (by omega) d_Md_ofBackup_24 (by decide) (fun c_24 => ?_) (fun c_24 => absurd c_24 (by omega))
  refine lv_iload_n hx hb d_Md_ofBackup_42 rfl (lv_at hl 2 rfl) ?_
  refine lv_iconst (v := (nI 1)) hx hb d_Md_ofBackup_43 (by decide) ?_
  refine zn_icmp_ne (tgt := 62) hx hb (a := 4) (b := 1) (by omega) (by omega) d_Md_ofBackup_44 (by decide) (fun c_44 => ?_) (fun c_44 => absurd c_44 (by omega))
  refine lv_iload_n hx hb d_Md_ofBackup_62 rfl (lv_at hl 2 rfl) ?_
  refine lv_iconst (v := (nI 2)) hx hb d_Md_ofBackup_63 (by decide) ?_
  refine zn_icmp_ne (tgt := 74) hx hb (a := 4) (b := 2) (by omega) (by omega) d_Md_ofBackup_64 (by decide) (fun c_64 => ?_) (fun c_64 => absurd c_64 (by omega))
  refine lv_iload_n hx hb d_Md_ofBackup_74 rfl (lv_at hl 2 rfl) ?_
  refine lv_iconst (v := (nI 3)) hx hb d_Md_ofBackup_75 (by decide) ?_
  refine zn_icmp_ne (tgt := 86) hx hb (a := 4) (b := 3) (by omega) (by omega) d_Md_ofBackup_76 (by decide) (fun c_76 => ?_) (fun c_76 => absurd c_76 (by omega))
  refine lv_iconst (v := (nI 0)) hx hb d_Md_ofBackup_86 (by decide) ?_
  refine lv_istore_n (lv' := [(3, .int (nI 0)), (0, .ref h0), (1, .int (nI b)), (2, .int (nI 4))]) hx hb d_Md_ofBackup_87 rfl hl (by decide) rfl (fun ls hl => ?_)
  refine lv_iconst (v := (nI 0)) hx hb d_Md_ofBackup_88 (by decide) ?_
  refine lv_istore (lv' := [(4, .int (nI 0)), (3, .int (nI 0)), (0, .ref h0), (1, .int (nI b)), (2, .int (nI 4))]) hx hb d_Md_ofBackup_89 hl (by decide) rfl (fun ls hl => ?_)
  have loop_91 : ∀ (fu : Nat) (i : Nat) (n : Nat), 8 - i < fu → (i ≤ 8) → (n = zimb cp b i) → (n ≤ i) → ∀ (ls : Array Slot), lv_has ls 5 [(0, .ref h0), (1, .int (nI b)), (3, .int (nI n)), (4, .int (nI i))] → W p l e (headSpec w_Md_ofBackup ({ frames := 1, cells := 0, slots := 0, locals := 21 } : Room)).room s m ([.ref h0, .int (nI b), .int (nI 4)] : List Value).toArray below meth c s.heap [] 0 0 (MQ below (k2_QcV (.int (nI (zimb cp b 8)))) ([.ref h0, .int (nI b), .int (nI 4)] : List Value).toArray s 0 0 (fun _ => False)) (F0 m 91 ls []) := by
    intro fu
    induction fu with
    | zero => intro _ _ hm; exact absurd hm (Nat.not_lt_zero _)
    | succ fu ih_91 =>
      intro i n hm_91 h1 h3 h4 ls hl
      refine lv_iload hx hb d_Md_ofBackup_91 (lv_at hl 3 rfl) ?_
      refine lv_bipush (v := (nI 8)) hx hb d_Md_ofBackup_93 (by decide) ?_
      refine zn_icmp_ge (tgt := 122) hx hb (a := i) (b := 8) (by omega) (by omega) d_Md_ofBackup_95 (by decide) (fun c_95 => ?_) (fun c_95 => ?_)
      · refine lv_iload_n hx hb d_Md_ofBackup_122 rfl (lv_at hl 2 rfl) ?_
        exact W.iret hx hb hr (fun t ht hW => ⟨by rw [h3, show i = 8 by omega], ht⟩) (fun q h => by cases h) d_Md_ofBackup_123
      · refine lv_aload_n hx hb d_Md_ofBackup_98 rfl (lv_at hl 0 rfl) ?_
        refine va_get (D := (dC, dI)) (ci := 6) (v := .ref gC) (C := R_Md) (T := F_Md) (N := 21) hx hb hts i_Md hown hK hP 0 rfl rfl 17 (by decide) (hts _ wd_580) (fun _ h9 => h9) rfl d_Md_ofBackup_99 ?_
        refine lv_iload_n hx hb d_Md_ofBackup_102 rfl (lv_at hl 1 rfl) ?_
        refine lv_bipush (v := (nI 8)) hx hb d_Md_ofBackup_103 (by decide) ?_
        refine zn_imul hx hb d_Md_ofBackup_105 ?_
        refine lv_iload hx hb d_Md_ofBackup_106 (lv_at hl 3 rfl) ?_
        refine zn_iadd hx hb d_Md_ofBackup_108 ?_
        refine zn_iald hx hb hK hP 1 0 rfl rfl (i := (b * 8) + i) (by omega) (by omega) d_Md_ofBackup_109 ?_
        refine lv_if_lt (tgt := 116) hx hb d_Md_ofBackup_110 (by decide) (fun c_110 => ?_) (fun c_110 => ?_)
        · refine lv_iinc (v := (nI (i + 1))) (lv' := [(4, .int (nI (i + 1))), (0, .ref h0), (1, .int (nI b)), (3, .int (nI n))]) hx hb d_Md_ofBackup_116 hl (k := 3) rfl (nI_1 _) (by decide) rfl (fun ls hl => ?_)
          refine lv_goto (tgt := 91) hx hb d_Md_ofBackup_119 (by decide) ?_
          exact ih_91 (i + 1) n (by omega) (by first | omega | assumption) (by rw [zimb, if_neg (fun q => q c_110), h3]; rfl) (by first | omega | assumption) ls (lv_sub hl [1, 2, 3, 0] rfl)
        · refine lv_iinc (v := (nI (n + 1))) (lv' := [(3, .int (nI (n + 1))), (0, .ref h0), (1, .int (nI b)), (4, .int (nI i))]) hx hb d_Md_ofBackup_113 hl (k := 2) rfl (nI_1 _) (by decide) rfl (fun ls hl => ?_)
          refine lv_iinc (v := (nI (i + 1))) (lv' := [(4, .int (nI (i + 1))), (3, .int (nI (n + 1))), (0, .ref h0), (1, .int (nI b))]) hx hb d_Md_ofBackup_116 hl (k := 3) rfl (nI_1 _) (by decide) rfl (fun ls hl => ?_)
          refine lv_goto (tgt := 91) hx hb d_Md_ofBackup_119 (by decide) ?_
          exact ih_91 (i + 1) (n + 1) (by omega) (by first | omega | assumption) (by rw [zimb, if_pos c_110, h3]) (by first | omega | assumption) ls (lv_sub hl [2, 3, 1, 0] rfl)
  exact loop_91 (8 - 0 + 1) 0 0 (by omega) (by first | omega | assumption) rfl (by first | omega | assumption) ls (lv_sub hl [2, 3, 1, 0] rfl)
set_option maxHeartbeats 4000000 in
set_option maxRecDepth 100000 in
theorem c_Md_count_0 (l : Launch) (dC : Nat → ClassId) (dI : Nat → Nat → Nat) (cT : Nat → ClassId) (h0 : Nat) (mS : Nat) (mQ : Nat) (gK : Nat) (gV : Nat) (gH : Nat) (mL : Nat) (mo : Bool) (gM : Nat) (mch : Nat) (mA : Nat) (mP : Nat) (gI : Nat) (gR : Nat) (gT : Nat) (gF : Nat) (gS : Nat) (gE : Nat) (gC : Nat) (mB : Nat) (ml : Int32) (mz : Int32) : Met l y_Md_count w_Md_count ({ frames := 0, cells := 0, slots := 0, locals := 0 } : Room) (zPreR (dC, dI) vwCl (zT cT) [.ref h0, .int (nI 0)] ([(h0, zoMd mS mQ gK gV gH mL mo gM mch mA mP gI gR gT gF gS gE gC mB ml mz)])) (k2_QcV (.int (nI mL))) 0 0 (fun _ => False) := by
  refine Met.ofW (cc := b_Md_count) (maxL := 2) (ret := (some .int)) (by decide) rfl ?_
  intro p e s m args below meth c s₁ B hml hv
  obtain ⟨rfl, hP, hK, hE⟩ := hv
  have hx := B.exec
  have hb := B.bytes
  have hr := B.returns
  have hts := fun w h => atoms_spec (ws := w_Md_count) B.pre w (List.mem_cons_of_mem _ h)
  have hown : s.vm.findClass R_Md = some m.cls := findClass_of_methodNamed B.named
  have hlocks := B.notSynchronized
  have hl := lv_entry ([.ref h0, .int (nI 0)]) (n := 2) (Nat.le_of_ble_eq_true rfl)
  rw [lg_entry_eq]
  generalize (lg_sl ([.ref h0, .int (nI 0)]) ++ List.replicate (2 - (lg_sl ([.ref h0, .int (nI 0)])).length) Slot.unset).toArray = ls at hl ⊢
  have hl : lv_has ls 2 [(0, .ref h0), (1, .int (nI 0))] := hl
  refine lv_iload_n hx hb d_Md_count_0 rfl (lv_at hl 1 rfl) ?_
  refine zn_if_ne (tgt := 9) hx hb (a := 0) (by omega) d_Md_count_1 (by decide) (fun c_1 => absurd c_1 (by omega)) (fun c_1 => ?_)
  refine lv_aload_n hx hb d_Md_count_4 rfl (lv_at hl 0 rfl) ?_
  refine va_get (D := (dC, dI)) (ci := 6) (v := .int (nI mL)) (C := R_Md) (T := F_Md) (N := 21) hx hb hts i_Md hown hK hP 0 rfl rfl 5 (by decide) (hts _ wd_568) (fun _ h9 => h9) rfl d_Md_count_5 ?_
  exact W.iret hx hb hr (fun t ht hW => ⟨rfl, ht⟩) (fun q h => by cases h) d_Md_count_8
set_option maxHeartbeats 4000000 in
set_option maxRecDepth 100000 in
theorem c_Md_count_1 (l : Launch) (dC : Nat → ClassId) (dI : Nat → Nat → Nat) (cT : Nat → ClassId) (h0 : Nat) (mS : Nat) (mQ : Nat) (gK : Nat) (gV : Nat) (gH : Nat) (mL : Nat) (mo : Bool) (gM : Nat) (mch : Nat) (mA : Nat) (mP : Nat) (gI : Nat) (gR : Nat) (gT : Nat) (gF : Nat) (gS : Nat) (gE : Nat) (gC : Nat) (mB : Nat) (ml : Int32) (mz : Int32) (mk : Nat → Int32) (hL : mL ≤ 1000) : Met l y_Md_count w_Md_count ({ frames := 1, cells := 0, slots := 0, locals := 22 } : Room) (zPreR (dC, dI) vwCl (zT cT) [.ref h0, .int (nI 1)] ([(h0, zoMd mS mQ gK gV gH mL mo gM mch mA mP gI gR gT gF gS gE gC mB ml mz), (gK, zaI (cT 0) 1100 mk)])) (k2_QcV (.int (nI (zcom mk mL)))) 0 0 (fun _ => False) := by
  refine Met.ofW (cc := b_Md_count) (maxL := 2) (ret := (some .int)) (by decide) rfl ?_
  intro p e s m args below meth c s₁ B hml hv
  obtain ⟨rfl, hP, hK, hE⟩ := hv
  have hx := B.exec
  have hb := B.bytes
  have hr := B.returns
  have hts := fun w h => atoms_spec (ws := w_Md_count) B.pre w (List.mem_cons_of_mem _ h)
  have hown : s.vm.findClass R_Md = some m.cls := findClass_of_methodNamed B.named
  have hlocks := B.notSynchronized
  have hl := lv_entry ([.ref h0, .int (nI 1)]) (n := 2) (Nat.le_of_ble_eq_true rfl)
  rw [lg_entry_eq]
  generalize (lg_sl ([.ref h0, .int (nI 1)]) ++ List.replicate (2 - (lg_sl ([.ref h0, .int (nI 1)])).length) Slot.unset).toArray = ls at hl ⊢
  have hl : lv_has ls 2 [(0, .ref h0), (1, .int (nI 1))] := hl
  refine lv_iload_n hx hb d_Md_count_0 rfl (lv_at hl 1 rfl) ?_
  refine zn_if_ne (tgt := 9) hx hb (a := 1) (by omega) d_Md_count_1 (by decide) (fun c_1 => ?_) (fun c_1 => absurd c_1 (by omega))
  refine lv_iload_n hx hb d_Md_count_9 rfl (lv_at hl 1 rfl) ?_
  refine lv_iconst (v := (nI 1)) hx hb d_Md_count_10 (by decide) ?_
  refine zn_icmp_ne (tgt := 19) hx hb (a := 1) (b := 1) (by omega) (by omega) d_Md_count_11 (by decide) (fun c_11 => absurd c_11 (by omega)) (fun c_11 => ?_)
  refine lv_aload_n hx hb d_Md_count_14 rfl (lv_at hl 0 rfl) ?_
  refine zw_R (r := .int (nI (zcom mk mL))) (va_runV (As := []) (rest := []) ⟨hx, hb, hml, hown, hts⟩ (c_Md_commits l dC dI cT h0 mS mQ gK gV gH mL mo gM mch mA mP gI gR gT gF gS gE gC mB ml mz mk (by first | omega | assumption)) (cwV 0 hts (zgV wd_650 wd_652 wp_10 wd_11 wd_653) rfl rfl rfl (by decide +kernel) ⟨Nat.le_of_ble_eq_true rfl, Nat.le_of_ble_eq_true rfl⟩) ⟨zPreR_blind, va_recv hK hP (ci := 6) (q0 := 0) rfl rfl, zp_R hK hE (zSub (X := [(h0, zoMd mS mQ gK gV gH mL mo gM mch mA mP gI gR gT gF gS gE gC mB ml mz), (gK, zaI (cT 0) 1100 mk)]) (pl := []) hP [0, 1] rfl)⟩ rfl rfl hl.1 rfl (lv_room (Nat.le_of_ble_eq_true rfl)) d_Md_count_15 ⟨Nat.le_of_ble_eq_true rfl, Nat.le_of_ble_eq_true rfl⟩) ?_
  exact W.iret hx hb hr (fun t ht hW => ⟨rfl, ht⟩) (fun q h => by cases h) d_Md_count_18
set_option maxHeartbeats 4000000 in
set_option maxRecDepth 100000 in
theorem c_Md_count_2 (l : Launch) (dC : Nat → ClassId) (dI : Nat → Nat → Nat) (cT : Nat → ClassId) (h0 : Nat) (mS : Nat) (mQ : Nat) (gK : Nat) (gV : Nat) (gH : Nat) (mL : Nat) (mo : Bool) (gM : Nat) (mch : Nat) (mA : Nat) (mP : Nat) (gI : Nat) (gR : Nat) (gT : Nat) (gF : Nat) (gS : Nat) (gE : Nat) (gC : Nat) (mB : Nat) (ml : Int32) (mz : Int32) : Met l y_Md_count w_Md_count ({ frames := 0, cells := 0, slots := 0, locals := 0 } : Room) (zPreR (dC, dI) vwCl (zT cT) [.ref h0, .int (nI 2)] ([(h0, zoMd mS mQ gK gV gH mL mo gM mch mA mP gI gR gT gF gS gE gC mB ml mz)])) (k2_QcV (.int (nI mB))) 0 0 (fun _ => False) := by
  refine Met.ofW (cc := b_Md_count) (maxL := 2) (ret := (some .int)) (by decide) rfl ?_
  intro p e s m args below meth c s₁ B hml hv
  obtain ⟨rfl, hP, hK, hE⟩ := hv
  have hx := B.exec
  have hb := B.bytes
  have hr := B.returns
  have hts := fun w h => atoms_spec (ws := w_Md_count) B.pre w (List.mem_cons_of_mem _ h)
  have hown : s.vm.findClass R_Md = some m.cls := findClass_of_methodNamed B.named
  have hlocks := B.notSynchronized
  have hl := lv_entry ([.ref h0, .int (nI 2)]) (n := 2) (Nat.le_of_ble_eq_true rfl)
  rw [lg_entry_eq]
  generalize (lg_sl ([.ref h0, .int (nI 2)]) ++ List.replicate (2 - (lg_sl ([.ref h0, .int (nI 2)])).length) Slot.unset).toArray = ls at hl ⊢
  have hl : lv_has ls 2 [(0, .ref h0), (1, .int (nI 2))] := hl
  refine lv_iload_n hx hb d_Md_count_0 rfl (lv_at hl 1 rfl) ?_
  refine zn_if_ne (tgt := 9) hx hb (a := 2) (by omega) d_Md_count_1 (by decide) (fun c_1 => ?_) (fun c_1 => absurd c_1 (by omega))
  refine lv_iload_n hx hb d_Md_count_9 rfl (lv_at hl 1 rfl) ?_
  refine lv_iconst (v := (nI 1)) hx hb d_Md_count_10 (by decide) ?_
  refine zn_icmp_ne (tgt := 19) hx hb (a := 2) (b := 1) (by omega) (by omega) d_Md_count_11 (by decide) (fun c_11 => ?_) (fun c_11 => absurd c_11 (by omega))
  refine lv_iload_n hx hb d_Md_count_19 rfl (lv_at hl 1 rfl) ?_
  refine lv_iconst (v := (nI 2)) hx hb d_Md_count_20 (by decide) ?_
  refine zn_icmp_ne (tgt := 29) hx hb (a := 2) (b := 2) (by omega) (by omega) d_Md_count_21 (by decide) (fun c_21 => absurd c_21 (by omega)) (fun c_21 => ?_)
  refine lv_aload_n hx hb d_Md_count_24 rfl (lv_at hl 0 rfl) ?_
  refine va_get (D := (dC, dI)) (ci := 6) (v := .int (nI mB)) (C := R_Md) (T := F_Md) (N := 21) hx hb hts i_Md hown hK hP 0 rfl rfl 18 (by decide) (hts _ wd_581) (fun _ h9 => h9) rfl d_Md_count_25 ?_
  exact W.iret hx hb hr (fun t ht hW => ⟨rfl, ht⟩) (fun q h => by cases h) d_Md_count_28
set_option maxHeartbeats 4000000 in
set_option maxRecDepth 100000 in
theorem c_Md_count_3 (l : Launch) (dC : Nat → ClassId) (dI : Nat → Nat → Nat) (cT : Nat → ClassId) (h0 : Nat) (mS : Nat) (mQ : Nat) (gK : Nat) (gV : Nat) (gH : Nat) (mL : Nat) (mo : Bool) (gM : Nat) (mch : Nat) (mA : Nat) (mP : Nat) (gI : Nat) (gR : Nat) (gT : Nat) (gF : Nat) (gS : Nat) (gE : Nat) (gC : Nat) (mB : Nat) (ml : Int32) (mz : Int32) (hL : mL ≤ 1000) (hs0 : 0 < mS) (hs8 : mS ≤ 8) (hA0 : mA ≤ (mL + mS - 1) / mS) : Met l y_Md_count w_Md_count ({ frames := 1, cells := 0, slots := 0, locals := 20 } : Room) (zPreR (dC, dI) vwCl (zT cT) [.ref h0, .int (nI 3)] ([(h0, zoMd mS mQ gK gV gH mL mo gM mch mA mP gI gR gT gF gS gE gC mB ml mz)])) (k2_QcV (.int (nI ((mL + mS - 1) / mS - mA)))) 0 0 (fun _ => False) := by
  refine Met.ofW (cc := b_Md_count) (maxL := 2) (ret := (some .int)) (by decide) rfl ?_
  intro p e s m args below meth c s₁ B hml hv
  obtain ⟨rfl, hP, hK, hE⟩ := hv
  have hx := B.exec
  have hb := B.bytes
  have hr := B.returns
  have hts := fun w h => atoms_spec (ws := w_Md_count) B.pre w (List.mem_cons_of_mem _ h)
  have hown : s.vm.findClass R_Md = some m.cls := findClass_of_methodNamed B.named
  have hlocks := B.notSynchronized
  have hl := lv_entry ([.ref h0, .int (nI 3)]) (n := 2) (Nat.le_of_ble_eq_true rfl)
  rw [lg_entry_eq]
  generalize (lg_sl ([.ref h0, .int (nI 3)]) ++ List.replicate (2 - (lg_sl ([.ref h0, .int (nI 3)])).length) Slot.unset).toArray = ls at hl ⊢
  have hl : lv_has ls 2 [(0, .ref h0), (1, .int (nI 3))] := hl
  refine lv_iload_n hx hb d_Md_count_0 rfl (lv_at hl 1 rfl) ?_
  refine zn_if_ne (tgt := 9) hx hb (a := 3) (by omega) d_Md_count_1 (by decide) (fun c_1 => ?_) (fun c_1 => absurd c_1 (by omega))
  refine lv_iload_n hx hb d_Md_count_9 rfl (lv_at hl 1 rfl) ?_
  refine lv_iconst (v := (nI 1)) hx hb d_Md_count_10 (by decide) ?_
  refine zn_icmp_ne (tgt := 19) hx hb (a := 3) (b := 1) (by omega) (by omega) d_Md_count_11 (by decide) (fun c_11 => ?_) (fun c_11 => absurd c_11 (by omega))
  refine lv_iload_n hx hb d_Md_count_19 rfl (lv_at hl 1 rfl) ?_
  refine lv_iconst (v := (nI 2)) hx hb d_Md_count_20 (by decide) ?_
  refine zn_icmp_ne (tgt := 29) hx hb (a := 3) (b := 2) (by omega) (by omega) d_Md_count_21 (by decide) (fun c_21 => ?_) (fun c_21 => absurd c_21 (by omega))
  refine lv_iload_n hx hb d_Md_count_29 rfl (lv_at hl 1 rfl) ?_
  refine lv_iconst (v := (nI 3)) hx hb d_Md_count_30 (by decide) ?_
  refine zn_icmp_ne (tgt := 44) hx hb (a := 3) (b := 3) (by omega) (by omega) d_Md_count_31 (by decide) (fun c_31 => absurd c_31 (by omega)) (fun c_31 => ?_)
  refine lv_aload_n hx hb d_Md_count_34 rfl (lv_at hl 0 rfl) ?_
  refine zw_R (r := .int (nI ((mL + mS - 1) / mS))) (va_runV (As := []) (rest := []) ⟨hx, hb, hml, hown, hts⟩ (c_Md_begun l dC dI cT h0 mS mQ gK gV gH mL mo gM mch mA mP gI gR gT gF gS gE gC mB ml mz (by first | omega | assumption) (by first | omega | assumption) (by first | omega | assumption)) (cwV 0 hts (zgV wd_748 wd_750 wp_21 wd_11 wd_751) rfl rfl rfl (by decide +kernel) ⟨Nat.le_of_ble_eq_true rfl, Nat.le_of_ble_eq_true rfl⟩) ⟨zPreR_blind, va_recv hK hP (ci := 6) (q0 := 0) rfl rfl, zp_R hK hE (zSub (X := [(h0, zoMd mS mQ gK gV gH mL mo gM mch mA mP gI gR gT gF gS gE gC mB ml mz)]) (pl := []) hP [0] rfl)⟩ rfl rfl hl.1 rfl (lv_room (Nat.le_of_ble_eq_true rfl)) d_Md_count_35 ⟨Nat.le_of_ble_eq_true rfl, Nat.le_of_ble_eq_true rfl⟩) ?_
  refine lv_aload_n hx hb d_Md_count_38 rfl (lv_at hl 0 rfl) ?_
  refine va_get (D := (dC, dI)) (ci := 6) (v := .int (nI mA)) (C := R_Md) (T := F_Md) (N := 21) hx hb hts i_Md hown hK hP 0 rfl rfl 9 (by decide) (hts _ wd_572) (fun _ h9 => h9) rfl d_Md_count_39 ?_
  refine zn_isub hx hb (by omega) d_Md_count_42 ?_
  exact W.iret hx hb hr (fun t ht hW => ⟨rfl, ht⟩) (fun q h => by cases h) d_Md_count_43
set_option maxHeartbeats 4000000 in
set_option maxRecDepth 100000 in
theorem c_Md_count_4 (l : Launch) (dC : Nat → ClassId) (dI : Nat → Nat → Nat) (cT : Nat → ClassId) (h0 : Nat) (mS : Nat) (mQ : Nat) (gK : Nat) (gV : Nat) (gH : Nat) (mL : Nat) (mo : Bool) (gM : Nat) (mch : Nat) (mA : Nat) (mP : Nat) (gI : Nat) (gR : Nat) (gT : Nat) (gF : Nat) (gS : Nat) (gE : Nat) (gC : Nat) (mB : Nat) (ml : Int32) (mz : Int32) (hPA : mP ≤ mA) : Met l y_Md_count w_Md_count ({ frames := 0, cells := 0, slots := 0, locals := 0 } : Room) (zPreR (dC, dI) vwCl (zT cT) [.ref h0, .int (nI 4)] ([(h0, zoMd mS mQ gK gV gH mL mo gM mch mA mP gI gR gT gF gS gE gC mB ml mz)])) (k2_QcV (.int (nI (mA - mP)))) 0 0 (fun _ => False) := by
  refine Met.ofW (cc := b_Md_count) (maxL := 2) (ret := (some .int)) (by decide) rfl ?_
  intro p e s m args below meth c s₁ B hml hv
  obtain ⟨rfl, hP, hK, hE⟩ := hv
  have hx := B.exec
  have hb := B.bytes
  have hr := B.returns
  have hts := fun w h => atoms_spec (ws := w_Md_count) B.pre w (List.mem_cons_of_mem _ h)
  have hown : s.vm.findClass R_Md = some m.cls := findClass_of_methodNamed B.named
  have hlocks := B.notSynchronized
  have hl := lv_entry ([.ref h0, .int (nI 4)]) (n := 2) (Nat.le_of_ble_eq_true rfl)
  rw [lg_entry_eq]
  generalize (lg_sl ([.ref h0, .int (nI 4)]) ++ List.replicate (2 - (lg_sl ([.ref h0, .int (nI 4)])).length) Slot.unset).toArray = ls at hl ⊢
  have hl : lv_has ls 2 [(0, .ref h0), (1, .int (nI 4))] := hl
  refine lv_iload_n hx hb d_Md_count_0 rfl (lv_at hl 1 rfl) ?_
  refine zn_if_ne (tgt := 9) hx hb (a := 4) (by omega) d_Md_count_1 (by decide) (fun c_1 => ?_) (fun c_1 => absurd c_1 (by omega))
  refine lv_iload_n hx hb d_Md_count_9 rfl (lv_at hl 1 rfl) ?_
  refine lv_iconst (v := (nI 1)) hx hb d_Md_count_10 (by decide) ?_
  refine zn_icmp_ne (tgt := 19) hx hb (a := 4) (b := 1) (by omega) (by omega) d_Md_count_11 (by decide) (fun c_11 => ?_) (fun c_11 => absurd c_11 (by omega))
  refine lv_iload_n hx hb d_Md_count_19 rfl (lv_at hl 1 rfl) ?_
  refine lv_iconst (v := (nI 2)) hx hb d_Md_count_20 (by decide) ?_
  refine zn_icmp_ne (tgt := 29) hx hb (a := 4) (b := 2) (by omega) (by omega) d_Md_count_21 (by decide) (fun c_21 => ?_) (fun c_21 => absurd c_21 (by omega))
  refine lv_iload_n hx hb d_Md_count_29 rfl (lv_at hl 1 rfl) ?_
  refine lv_iconst (v := (nI 3)) hx hb d_Md_count_30 (by decide) ?_
  refine zn_icmp_ne (tgt := 44) hx hb (a := 4) (b := 3) (by omega) (by omega) d_Md_count_31 (by decide) (fun c_31 => ?_) (fun c_31 => absurd c_31 (by omega))
  refine lv_iload_n hx hb d_Md_count_44 rfl (lv_at hl 1 rfl) ?_
  refine lv_iconst (v := (nI 4)) hx hb d_Md_count_45 (by decide) ?_
  refine zn_icmp_ne (tgt := 59) hx hb (a := 4) (b := 4) (by omega) (by omega) d_Md_count_46 (by decide) (fun c_46 => absurd c_46 (by omega)) (fun c_46 => ?_)
  refine lv_aload_n hx hb d_Md_count_49 rfl (lv_at hl 0 rfl) ?_
  refine va_get (D := (dC, dI)) (ci := 6) (v := .int (nI mA)) (C := R_Md) (T := F_Md) (N := 21) hx hb hts i_Md hown hK hP 0 rfl rfl 9 (by decide) (hts _ wd_572) (fun _ h9 => h9) rfl d_Md_count_50 ?_
  refine lv_aload_n hx hb d_Md_count_53 rfl (lv_at hl 0 rfl) ?_
  refine va_get (D := (dC, dI)) (ci := 6) (v := .int (nI mP)) (C := R_Md) (T := F_Md) (N := 21) hx hb hts i_Md hown hK hP 0 rfl rfl 10 (by decide) (hts _ wd_573) (fun _ h9 => h9) rfl d_Md_count_54 ?_
  refine zn_isub hx hb (by omega) d_Md_count_57 ?_
  exact W.iret hx hb hr (fun t ht hW => ⟨rfl, ht⟩) (fun q h => by cases h) d_Md_count_58
set_option maxHeartbeats 4000000 in
set_option maxRecDepth 100000 in
theorem c_Md_count_5 (l : Launch) (dC : Nat → ClassId) (dI : Nat → Nat → Nat) (cT : Nat → ClassId) (h0 : Nat) (mS : Nat) (mQ : Nat) (gK : Nat) (gV : Nat) (gH : Nat) (mL : Nat) (mo : Bool) (gM : Nat) (mch : Nat) (mA : Nat) (mP : Nat) (gI : Nat) (gR : Nat) (gT : Nat) (gF : Nat) (gS : Nat) (gE : Nat) (gC : Nat) (mB : Nat) (ml : Int32) (mz : Int32) (hr0 : mL ≤ (mA + 4) * mS) : Met l y_Md_count w_Md_count ({ frames := 1, cells := 0, slots := 0, locals := 20 } : Room) (zPreR (dC, dI) vwCl (zT cT) [.ref h0, .int (nI 5)] ([(h0, zoMd mS mQ gK gV gH mL mo gM mch mA mP gI gR gT gF gS gE gC mB ml mz)])) (k2_QcV (.int (nI ((mA + 4) * mS - mL)))) 0 0 (fun _ => False) := by
  refine Met.ofW (cc := b_Md_count) (maxL := 2) (ret := (some .int)) (by decide) rfl ?_
  intro p e s m args below meth c s₁ B hml hv
  obtain ⟨rfl, hP, hK, hE⟩ := hv
  have hx := B.exec
  have hb := B.bytes
  have hr := B.returns
  have hts := fun w h => atoms_spec (ws := w_Md_count) B.pre w (List.mem_cons_of_mem _ h)
  have hown : s.vm.findClass R_Md = some m.cls := findClass_of_methodNamed B.named
  have hlocks := B.notSynchronized
  have hl := lv_entry ([.ref h0, .int (nI 5)]) (n := 2) (Nat.le_of_ble_eq_true rfl)
  rw [lg_entry_eq]
  generalize (lg_sl ([.ref h0, .int (nI 5)]) ++ List.replicate (2 - (lg_sl ([.ref h0, .int (nI 5)])).length) Slot.unset).toArray = ls at hl ⊢
  have hl : lv_has ls 2 [(0, .ref h0), (1, .int (nI 5))] := hl
  refine lv_iload_n hx hb d_Md_count_0 rfl (lv_at hl 1 rfl) ?_
  refine zn_if_ne (tgt := 9) hx hb (a := 5) (by omega) d_Md_count_1 (by decide) (fun c_1 => ?_) (fun c_1 => absurd c_1 (by omega))
  refine lv_iload_n hx hb d_Md_count_9 rfl (lv_at hl 1 rfl) ?_
  refine lv_iconst (v := (nI 1)) hx hb d_Md_count_10 (by decide) ?_
  refine zn_icmp_ne (tgt := 19) hx hb (a := 5) (b := 1) (by omega) (by omega) d_Md_count_11 (by decide) (fun c_11 => ?_) (fun c_11 => absurd c_11 (by omega))
  refine lv_iload_n hx hb d_Md_count_19 rfl (lv_at hl 1 rfl) ?_
  refine lv_iconst (v := (nI 2)) hx hb d_Md_count_20 (by decide) ?_
  refine zn_icmp_ne (tgt := 29) hx hb (a := 5) (b := 2) (by omega) (by omega) d_Md_count_21 (by decide) (fun c_21 => ?_) (fun c_21 => absurd c_21 (by omega))
  refine lv_iload_n hx hb d_Md_count_29 rfl (lv_at hl 1 rfl) ?_
  refine lv_iconst (v := (nI 3)) hx hb d_Md_count_30 (by decide) ?_
  refine zn_icmp_ne (tgt := 44) hx hb (a := 5) (b := 3) (by omega) (by omega) d_Md_count_31 (by decide) (fun c_31 => ?_) (fun c_31 => absurd c_31 (by omega))
  refine lv_iload_n hx hb d_Md_count_44 rfl (lv_at hl 1 rfl) ?_
  refine lv_iconst (v := (nI 4)) hx hb d_Md_count_45 (by decide) ?_
  refine zn_icmp_ne (tgt := 59) hx hb (a := 5) (b := 4) (by omega) (by omega) d_Md_count_46 (by decide) (fun c_46 => ?_) (fun c_46 => absurd c_46 (by omega))
  refine lv_iload_n hx hb d_Md_count_59 rfl (lv_at hl 1 rfl) ?_
  refine lv_iconst (v := (nI 5)) hx hb d_Md_count_60 (by decide) ?_
  refine zn_icmp_ne (tgt := 69) hx hb (a := 5) (b := 5) (by omega) (by omega) d_Md_count_61 (by decide) (fun c_61 => absurd c_61 (by omega)) (fun c_61 => ?_)
  refine lv_aload_n hx hb d_Md_count_64 rfl (lv_at hl 0 rfl) ?_
  refine zw_R (r := .int (nI ((mA + 4) * mS - mL))) (va_runV (As := []) (rest := []) ⟨hx, hb, hml, hown, hts⟩ (c_Md_room l dC dI cT h0 mS mQ gK gV gH mL mo gM mch mA mP gI gR gT gF gS gE gC mB ml mz (by first | omega | assumption)) (cwV 0 hts (zgV wd_638 wd_640 wp_8 wd_11 wd_641) rfl rfl rfl (by decide +kernel) ⟨Nat.le_of_ble_eq_true rfl, Nat.le_of_ble_eq_true rfl⟩) ⟨zPreR_blind, va_recv hK hP (ci := 6) (q0 := 0) rfl rfl, zp_R hK hE (zSub (X := [(h0, zoMd mS mQ gK gV gH mL mo gM mch mA mP gI gR gT gF gS gE gC mB ml mz)]) (pl := []) hP [0] rfl)⟩ rfl rfl hl.1 rfl (lv_room (Nat.le_of_ble_eq_true rfl)) d_Md_count_65 ⟨Nat.le_of_ble_eq_true rfl, Nat.le_of_ble_eq_true rfl⟩) ?_
  exact W.iret hx hb hr (fun t ht hW => ⟨rfl, ht⟩) (fun q h => by cases h) d_Md_count_68
set_option maxHeartbeats 4000000 in
set_option maxRecDepth 100000 in
theorem c_Md_count_6 (l : Launch) (dC : Nat → ClassId) (dI : Nat → Nat → Nat) (cT : Nat → ClassId) (h0 : Nat) (mS : Nat) (mQ : Nat) (gK : Nat) (gV : Nat) (gH : Nat) (mL : Nat) (mo : Bool) (gM : Nat) (mch : Nat) (mA : Nat) (mP : Nat) (gI : Nat) (gR : Nat) (gT : Nat) (gF : Nat) (gS : Nat) (gE : Nat) (gC : Nat) (mB : Nat) (ml : Int32) (mz : Int32) : Met l y_Md_count w_Md_count ({ frames := 0, cells := 0, slots := 0, locals := 0 } : Room) (zPreR (dC, dI) vwCl (zT cT) [.ref h0, .int (nI 6)] ([(h0, zoMd mS mQ gK gV gH mL mo gM mch mA mP gI gR gT gF gS gE gC mB ml mz)])) (k2_QcV (.int (zb mo))) 0 0 (fun _ => False) := by
  refine Met.ofW (cc := b_Md_count) (maxL := 2) (ret := (some .int)) (by decide) rfl ?_
  intro p e s m args below meth c s₁ B hml hv
  obtain ⟨rfl, hP, hK, hE⟩ := hv
  have hx := B.exec
  have hb := B.bytes
  have hr := B.returns
  have hts := fun w h => atoms_spec (ws := w_Md_count) B.pre w (List.mem_cons_of_mem _ h)
  have hown : s.vm.findClass R_Md = some m.cls := findClass_of_methodNamed B.named
  have hlocks := B.notSynchronized
  have hl := lv_entry ([.ref h0, .int (nI 6)]) (n := 2) (Nat.le_of_ble_eq_true rfl)
  rw [lg_entry_eq]
  generalize (lg_sl ([.ref h0, .int (nI 6)]) ++ List.replicate (2 - (lg_sl ([.ref h0, .int (nI 6)])).length) Slot.unset).toArray = ls at hl ⊢
  have hl : lv_has ls 2 [(0, .ref h0), (1, .int (nI 6))] := hl
  refine lv_iload_n hx hb d_Md_count_0 rfl (lv_at hl 1 rfl) ?_
  refine zn_if_ne (tgt := 9) hx hb (a := 6) (by omega) d_Md_count_1 (by decide) (fun c_1 => ?_) (fun c_1 => absurd c_1 (by omega))
  refine lv_iload_n hx hb d_Md_count_9 rfl (lv_at hl 1 rfl) ?_
  refine lv_iconst (v := (nI 1)) hx hb d_Md_count_10 (by decide) ?_
  refine zn_icmp_ne (tgt := 19) hx hb (a := 6) (b := 1) (by omega) (by omega) d_Md_count_11 (by decide) (fun c_11 => ?_) (fun c_11 => absurd c_11 (by omega))
  refine lv_iload_n hx hb d_Md_count_19 rfl (lv_at hl 1 rfl) ?_
  refine lv_iconst (v := (nI 2)) hx hb d_Md_count_20 (by decide) ?_
  refine zn_icmp_ne (tgt := 29) hx hb (a := 6) (b := 2) (by omega) (by omega) d_Md_count_21 (by decide) (fun c_21 => ?_) (fun c_21 => absurd c_21 (by omega))
  refine lv_iload_n hx hb d_Md_count_29 rfl (lv_at hl 1 rfl) ?_
  refine lv_iconst (v := (nI 3)) hx hb d_Md_count_30 (by decide) ?_
  refine zn_icmp_ne (tgt := 44) hx hb (a := 6) (b := 3) (by omega) (by omega) d_Md_count_31 (by decide) (fun c_31 => ?_) (fun c_31 => absurd c_31 (by omega))
  refine lv_iload_n hx hb d_Md_count_44 rfl (lv_at hl 1 rfl) ?_
  refine lv_iconst (v := (nI 4)) hx hb d_Md_count_45 (by decide) ?_
  refine zn_icmp_ne (tgt := 59) hx hb (a := 6) (b := 4) (by omega) (by omega) d_Md_count_46 (by decide) (fun c_46 => ?_) (fun c_46 => absurd c_46 (by omega))
  refine lv_iload_n hx hb d_Md_count_59 rfl (lv_at hl 1 rfl) ?_
  refine lv_iconst (v := (nI 5)) hx hb d_Md_count_60 (by decide) ?_
  refine zn_icmp_ne (tgt := 69) hx hb (a := 6) (b := 5) (by omega) (by omega) d_Md_count_61 (by decide) (fun c_61 => ?_) (fun c_61 => absurd c_61 (by omega))
  refine lv_iload_n hx hb d_Md_count_69 rfl (lv_at hl 1 rfl) ?_
  refine lv_bipush (v := (nI 6)) hx hb d_Md_count_70 (by decide) ?_
  refine zn_icmp_ne (tgt := 88) hx hb (a := 6) (b := 6) (by omega) (by omega) d_Md_count_72 (by decide) (fun c_72 => absurd c_72 (by omega)) (fun c_72 => ?_)
  refine lv_aload_n hx hb d_Md_count_75 rfl (lv_at hl 0 rfl) ?_
  refine va_get (D := (dC, dI)) (ci := 6) (v := .int (zb mo)) (C := R_Md) (T := F_Md) (N := 21) hx hb hts i_Md hown hK hP 0 rfl rfl 6 (by decide) (hts _ wd_569) (fun _ h9 => h9) rfl d_Md_count_76 ?_
  refine zb_if_eq (tgt := 86) hx hb d_Md_count_79 (by decide) (fun c_79 => ?_) (fun c_79 => ?_)
  · refine lv_iconst (v := (nI 0)) hx hb d_Md_count_86 (by decide) ?_
    exact W.iret hx hb hr (fun t ht hW => ⟨by rw [c_79]; rfl, ht⟩) (fun q h => by cases h) d_Md_count_87
  · refine lv_iconst (v := (nI 1)) hx hb d_Md_count_82 (by decide) ?_
    refine lv_goto (tgt := 87) hx hb d_Md_count_83 (by decide) ?_
    exact W.iret hx hb hr (fun t ht hW => ⟨by rw [c_79]; rfl, ht⟩) (fun q h => by cases h) d_Md_count_87
set_option maxHeartbeats 4000000 in
set_option maxRecDepth 100000 in
theorem c_Md_count_7 (l : Launch) (dC : Nat → ClassId) (dI : Nat → Nat → Nat) (cT : Nat → ClassId) (h0 : Nat) (mS : Nat) (mQ : Nat) (gK : Nat) (gV : Nat) (gH : Nat) (mL : Nat) (mo : Bool) (gM : Nat) (mch : Nat) (mA : Nat) (mP : Nat) (gI : Nat) (gR : Nat) (gT : Nat) (gF : Nat) (gS : Nat) (gE : Nat) (gC : Nat) (mB : Nat) (ml : Int32) (mz : Int32) : Met l y_Md_count w_Md_count ({ frames := 0, cells := 0, slots := 0, locals := 0 } : Room) (zPreR (dC, dI) vwCl (zT cT) [.ref h0, .int (nI 7)] ([(h0, zoMd mS mQ gK gV gH mL mo gM mch mA mP gI gR gT gF gS gE gC mB ml mz)])) (k2_QcV (.int ml)) 0 0 (fun _ => False) := by
  refine Met.ofW (cc := b_Md_count) (maxL := 2) (ret := (some .int)) (by decide) rfl ?_
  intro p e s m args below meth c s₁ B hml hv
  obtain ⟨rfl, hP, hK, hE⟩ := hv
  have hx := B.exec
  have hb := B.bytes
  have hr := B.returns
  have hts := fun w h => atoms_spec (ws := w_Md_count) B.pre w (List.mem_cons_of_mem _ h)
  have hown : s.vm.findClass R_Md = some m.cls := findClass_of_methodNamed B.named
  have hlocks := B.notSynchronized
  have hl := lv_entry ([.ref h0, .int (nI 7)]) (n := 2) (Nat.le_of_ble_eq_true rfl)
  rw [lg_entry_eq]
  generalize (lg_sl ([.ref h0, .int (nI 7)]) ++ List.replicate (2 - (lg_sl ([.ref h0, .int (nI 7)])).length) Slot.unset).toArray = ls at hl ⊢
  have hl : lv_has ls 2 [(0, .ref h0), (1, .int (nI 7))] := hl
  refine lv_iload_n hx hb d_Md_count_0 rfl (lv_at hl 1 rfl) ?_
  refine zn_if_ne (tgt := 9) hx hb (a := 7) (by omega) d_Md_count_1 (by decide) (fun c_1 => ?_) (fun c_1 => absurd c_1 (by omega))
  refine lv_iload_n hx hb d_Md_count_9 rfl (lv_at hl 1 rfl) ?_
  refine lv_iconst (v := (nI 1)) hx hb d_Md_count_10 (by decide) ?_
  refine zn_icmp_ne (tgt := 19) hx hb (a := 7) (b := 1) (by omega) (by omega) d_Md_count_11 (by decide) (fun c_11 => ?_) (fun c_11 => absurd c_11 (by omega))
  refine lv_iload_n hx hb d_Md_count_19 rfl (lv_at hl 1 rfl) ?_
  refine lv_iconst (v := (nI 2)) hx hb d_Md_count_20 (by decide) ?_
  refine zn_icmp_ne (tgt := 29) hx hb (a := 7) (b := 2) (by omega) (by omega) d_Md_count_21 (by decide) (fun c_21 => ?_) (fun c_21 => absurd c_21 (by omega))
  refine lv_iload_n hx hb d_Md_count_29 rfl (lv_at hl 1 rfl) ?_
  refine lv_iconst (v := (nI 3)) hx hb d_Md_count_30 (by decide) ?_
  refine zn_icmp_ne (tgt := 44) hx hb (a := 7) (b := 3) (by omega) (by omega) d_Md_count_31 (by decide) (fun c_31 => ?_) (fun c_31 => absurd c_31 (by omega))
  refine lv_iload_n hx hb d_Md_count_44 rfl (lv_at hl 1 rfl) ?_
  refine lv_iconst (v := (nI 4)) hx hb d_Md_count_45 (by decide) ?_
  refine zn_icmp_ne (tgt := 59) hx hb (a := 7) (b := 4) (by omega) (by omega) d_Md_count_46 (by decide) (fun c_46 => ?_) (fun c_46 => absurd c_46 (by omega))
  refine lv_iload_n hx hb d_Md_count_59 rfl (lv_at hl 1 rfl) ?_
  refine lv_iconst (v := (nI 5)) hx hb d_Md_count_60 (by decide) ?_
  refine zn_icmp_ne (tgt := 69) hx hb (a := 7) (b := 5) (by omega) (by omega) d_Md_count_61 (by decide) (fun c_61 => ?_) (fun c_61 => absurd c_61 (by omega))
  refine lv_iload_n hx hb d_Md_count_69 rfl (lv_at hl 1 rfl) ?_
  refine lv_bipush (v := (nI 6)) hx hb d_Md_count_70 (by decide) ?_
  refine zn_icmp_ne (tgt := 88) hx hb (a := 7) (b := 6) (by omega) (by omega) d_Md_count_72 (by decide) (fun c_72 => ?_) (fun c_72 => absurd c_72 (by omega))
  refine lv_iload_n hx hb d_Md_count_88 rfl (lv_at hl 1 rfl) ?_
  refine lv_bipush (v := (nI 7)) hx hb d_Md_count_89 (by decide) ?_
  refine zn_icmp_ne (tgt := 99) hx hb (a := 7) (b := 7) (by omega) (by omega) d_Md_count_91 (by decide) (fun c_91 => absurd c_91 (by omega)) (fun c_91 => ?_)
  refine lv_aload_n hx hb d_Md_count_94 rfl (lv_at hl 0 rfl) ?_
  refine va_get (D := (dC, dI)) (ci := 6) (v := .int ml) (C := R_Md) (T := F_Md) (N := 21) hx hb hts i_Md hown hK hP 0 rfl rfl 19 (by decide) (hts _ wd_582) (fun _ h9 => h9) rfl d_Md_count_95 ?_
  exact W.iret hx hb hr (fun t ht hW => ⟨rfl, ht⟩) (fun q h => by cases h) d_Md_count_98
set_option maxHeartbeats 4000000 in
set_option maxRecDepth 100000 in
theorem c_Md_count_8 (l : Launch) (dC : Nat → ClassId) (dI : Nat → Nat → Nat) (cT : Nat → ClassId) (h0 : Nat) (mS : Nat) (mQ : Nat) (gK : Nat) (gV : Nat) (gH : Nat) (mL : Nat) (mo : Bool) (gM : Nat) (mch : Nat) (mA : Nat) (mP : Nat) (gI : Nat) (gR : Nat) (gT : Nat) (gF : Nat) (gS : Nat) (gE : Nat) (gC : Nat) (mB : Nat) (ml : Int32) (mz : Int32) : Met l y_Md_count w_Md_count ({ frames := 0, cells := 0, slots := 0, locals := 0 } : Room) (zPreR (dC, dI) vwCl (zT cT) [.ref h0, .int (nI 8)] ([(h0, zoMd mS mQ gK gV gH mL mo gM mch mA mP gI gR gT gF gS gE gC mB ml mz)])) (k2_QcV (.int (nI mch))) 0 0 (fun _ => False) := by
  refine Met.ofW (cc := b_Md_count) (maxL := 2) (ret := (some .int)) (by decide) rfl ?_
  intro p e s m args below meth c s₁ B hml hv
  obtain ⟨rfl, hP, hK, hE⟩ := hv
  have hx := B.exec
  have hb := B.bytes
  have hr := B.returns
  have hts := fun w h => atoms_spec (ws := w_Md_count) B.pre w (List.mem_cons_of_mem _ h)
  have hown : s.vm.findClass R_Md = some m.cls := findClass_of_methodNamed B.named
  have hlocks := B.notSynchronized
  have hl := lv_entry ([.ref h0, .int (nI 8)]) (n := 2) (Nat.le_of_ble_eq_true rfl)
  rw [lg_entry_eq]
  generalize (lg_sl ([.ref h0, .int (nI 8)]) ++ List.replicate (2 - (lg_sl ([.ref h0, .int (nI 8)])).length) Slot.unset).toArray = ls at hl ⊢
  have hl : lv_has ls 2 [(0, .ref h0), (1, .int (nI 8))] := hl
  refine lv_iload_n hx hb d_Md_count_0 rfl (lv_at hl 1 rfl) ?_
  refine zn_if_ne (tgt := 9) hx hb (a := 8) (by omega) d_Md_count_1 (by decide) (fun c_1 => ?_) (fun c_1 => absurd c_1 (by omega))
  refine lv_iload_n hx hb d_Md_count_9 rfl (lv_at hl 1 rfl) ?_
  refine lv_iconst (v := (nI 1)) hx hb d_Md_count_10 (by decide) ?_
  refine zn_icmp_ne (tgt := 19) hx hb (a := 8) (b := 1) (by omega) (by omega) d_Md_count_11 (by decide) (fun c_11 => ?_) (fun c_11 => absurd c_11 (by omega))
  refine lv_iload_n hx hb d_Md_count_19 rfl (lv_at hl 1 rfl) ?_
  refine lv_iconst (v := (nI 2)) hx hb d_Md_count_20 (by decide) ?_
  refine zn_icmp_ne (tgt := 29) hx hb (a := 8) (b := 2) (by omega) (by omega) d_Md_count_21 (by decide) (fun c_21 => ?_) (fun c_21 => absurd c_21 (by omega))
  refine lv_iload_n hx hb d_Md_count_29 rfl (lv_at hl 1 rfl) ?_
  refine lv_iconst (v := (nI 3)) hx hb d_Md_count_30 (by decide) ?_
  refine zn_icmp_ne (tgt := 44) hx hb (a := 8) (b := 3) (by omega) (by omega) d_Md_count_31 (by decide) (fun c_31 => ?_) (fun c_31 => absurd c_31 (by omega))
  refine lv_iload_n hx hb d_Md_count_44 rfl (lv_at hl 1 rfl) ?_
  refine lv_iconst (v := (nI 4)) hx hb d_Md_count_45 (by decide) ?_
  refine zn_icmp_ne (tgt := 59) hx hb (a := 8) (b := 4) (by omega) (by omega) d_Md_count_46 (by decide) (fun c_46 => ?_) (fun c_46 => absurd c_46 (by omega))
  refine lv_iload_n hx hb d_Md_count_59 rfl (lv_at hl 1 rfl) ?_
  refine lv_iconst (v := (nI 5)) hx hb d_Md_count_60 (by decide) ?_
  refine zn_icmp_ne (tgt := 69) hx hb (a := 8) (b := 5) (by omega) (by omega) d_Md_count_61 (by decide) (fun c_61 => ?_) (fun c_61 => absurd c_61 (by omega))
  refine lv_iload_n hx hb d_Md_count_69 rfl (lv_at hl 1 rfl) ?_
  refine lv_bipush (v := (nI 6)) hx hb d_Md_count_70 (by decide) ?_
  refine zn_icmp_ne (tgt := 88) hx hb (a := 8) (b := 6) (by omega) (by omega) d_Md_count_72 (by decide) (fun c_72 => ?_) (fun c_72 => absurd c_72 (by omega))
  refine lv_iload_n hx hb d_Md_count_88 rfl (lv_at hl 1 rfl) ?_
  refine lv_bipush (v := (nI 7)) hx hb d_Md_count_89 (by decide) ?_
  refine zn_icmp_ne (tgt := 99) hx hb (a := 8) (b := 7) (by omega) (by omega) d_Md_count_91 (by decide) (fun c_91 => ?_) (fun c_91 => absurd c_91 (by omega))
  refine lv_iload_n hx hb d_Md_count_99 rfl (lv_at hl 1 rfl) ?_
  refine lv_bipush (v := (nI 8)) hx hb d_Md_count_100 (by decide) ?_
  refine zn_icmp_ne (tgt := 112) hx hb (a := 8) (b := 8) (by omega) (by omega) d_Md_count_102 (by decide) (fun c_102 => absurd c_102 (by omega)) (fun c_102 => ?_)
  refine lv_aload_n hx hb d_Md_count_105 rfl (lv_at hl 0 rfl) ?_
  refine va_get (D := (dC, dI)) (ci := 6) (v := .int (nI mch)) (C := R_Md) (T := F_Md) (N := 21) hx hb hts i_Md hown hK hP 0 rfl rfl 8 (by decide) (hts _ wd_571) (fun _ h9 => h9) rfl d_Md_count_106 ?_
  refine lv_goto (tgt := 113) hx hb d_Md_count_109 (by decide) ?_
  exact W.iret hx hb hr (fun t ht hW => ⟨rfl, ht⟩) (fun q h => by cases h) d_Md_count_113
set_option maxHeartbeats 4000000 in
set_option maxRecDepth 100000 in
theorem c_Md_count_ref (l : Launch) (dC : Nat → ClassId) (dI : Nat → Nat → Nat) (cT : Nat → ClassId) (h0 : Nat) (mS : Nat) (mQ : Nat) (gK : Nat) (gV : Nat) (gH : Nat) (mL : Nat) (mo : Bool) (gM : Nat) (mch : Nat) (mA : Nat) (mP : Nat) (gI : Nat) (gR : Nat) (gT : Nat) (gF : Nat) (gS : Nat) (gE : Nat) (gC : Nat) (mB : Nat) (ml : Int32) (mz : Int32) (w : Int32) (hno : ¬ isIn w 9 = true) : Met l y_Md_count w_Md_count ({ frames := 0, cells := 0, slots := 0, locals := 0 } : Room) (zPreR (dC, dI) vwCl (zT cT) [.ref h0, .int w] ([(h0, zoMd mS mQ gK gV gH mL mo gM mch mA mP gI gR gT gF gS gE gC mB ml mz)])) (k2_QcV (.int (-1))) 0 0 (fun _ => False) := by
  refine Met.ofW (cc := b_Md_count) (maxL := 2) (ret := (some .int)) (by decide) rfl ?_
  intro p e s m args below meth c s₁ B hml hv
  obtain ⟨rfl, hP, hK, hE⟩ := hv
  have hx := B.exec
  have hb := B.bytes
  have hr := B.returns
  have hts := fun w h => atoms_spec (ws := w_Md_count) B.pre w (List.mem_cons_of_mem _ h)
  have hown : s.vm.findClass R_Md = some m.cls := findClass_of_methodNamed B.named
  have hlocks := B.notSynchronized
  have hl := lv_entry ([.ref h0, .int w]) (n := 2) (Nat.le_of_ble_eq_true rfl)
  rw [lg_entry_eq]
  generalize (lg_sl ([.ref h0, .int w]) ++ List.replicate (2 - (lg_sl ([.ref h0, .int w])).length) Slot.unset).toArray = ls at hl ⊢
  have hl : lv_has ls 2 [(0, .ref h0), (1, .int w)] := hl
  refine lv_iload_n hx hb d_Md_count_0 rfl (lv_at hl 1 rfl) ?_
  refine lv_if_ne (tgt := 9) hx hb d_Md_count_1 (by decide) (fun c_1 => ?_) (fun c_1 => ?_)
  · refine lv_iload_n hx hb d_Md_count_9 rfl (lv_at hl 1 rfl) ?_
    refine lv_iconst (v := (nI 1)) hx hb d_Md_count_10 (by decide) ?_
    refine lv_icmp_ne (tgt := 19) hx hb d_Md_count_11 (by decide) (fun c_11 => ?_) (fun c_11 => ?_)
    · refine lv_iload_n hx hb d_Md_count_19 rfl (lv_at hl 1 rfl) ?_
      refine lv_iconst (v := (nI 2)) hx hb d_Md_count_20 (by decide) ?_
      refine lv_icmp_ne (tgt := 29) hx hb d_Md_count_21 (by decide) (fun c_21 => ?_) (fun c_21 => ?_)
      · refine lv_iload_n hx hb d_Md_count_29 rfl (lv_at hl 1 rfl) ?_
        refine lv_iconst (v := (nI 3)) hx hb d_Md_count_30 (by decide) ?_
        refine lv_icmp_ne (tgt := 44) hx hb d_Md_count_31 (by decide) (fun c_31 => ?_) (fun c_31 => ?_)
        · refine lv_iload_n hx hb d_Md_count_44 rfl (lv_at hl 1 rfl) ?_
          refine lv_iconst (v := (nI 4)) hx hb d_Md_count_45 (by decide) ?_
          refine lv_icmp_ne (tgt := 59) hx hb d_Md_count_46 (by decide) (fun c_46 => ?_) (fun c_46 => ?_)
          · refine lv_iload_n hx hb d_Md_count_59 rfl (lv_at hl 1 rfl) ?_
            refine lv_iconst (v := (nI 5)) hx hb d_Md_count_60 (by decide) ?_
            refine lv_icmp_ne (tgt := 69) hx hb d_Md_count_61 (by decide) (fun c_61 => ?_) (fun c_61 => ?_)
            · refine lv_iload_n hx hb d_Md_count_69 rfl (lv_at hl 1 rfl) ?_
              refine lv_bipush (v := (nI 6)) hx hb d_Md_count_70 (by decide) ?_
              refine lv_icmp_ne (tgt := 88) hx hb d_Md_count_72 (by decide) (fun c_72 => ?_) (fun c_72 => ?_)
              · refine lv_iload_n hx hb d_Md_count_88 rfl (lv_at hl 1 rfl) ?_
                refine lv_bipush (v := (nI 7)) hx hb d_Md_count_89 (by decide) ?_
                refine lv_icmp_ne (tgt := 99) hx hb d_Md_count_91 (by decide) (fun c_91 => ?_) (fun c_91 => ?_)
                · refine lv_iload_n hx hb d_Md_count_99 rfl (lv_at hl 1 rfl) ?_
                  refine lv_bipush (v := (nI 8)) hx hb d_Md_count_100 (by decide) ?_
                  refine lv_icmp_ne (tgt := 112) hx hb d_Md_count_102 (by decide) (fun c_102 => ?_) (fun c_102 => ?_)
                  · refine lv_iconst (v := (-1)) hx hb d_Md_count_112 (by decide) ?_
                    exact W.iret hx hb hr (fun t ht hW => ⟨rfl, ht⟩) (fun q h => by cases h) d_Md_count_113
                  · exact absurd hno (by rw [c_102]; decide)
                · exact absurd hno (by rw [c_91]; decide)
              · exact absurd hno (by rw [c_72]; decide)
            · exact absurd hno (by rw [c_61]; decide)
          · exact absurd hno (by rw [c_46]; decide)
        · exact absurd hno (by rw [c_31]; decide)
      · exact absurd hno (by rw [c_21]; decide)
    · exact absurd hno (by rw [c_11]; decide)
  · exact absurd hno (by rw [show w = nI 0 from c_1.trans nI_0.symm]; decide)
