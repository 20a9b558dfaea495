/-! the two sides held against one another: the disk, the backups -/
def iD (mL : Nat) (mi : Nat → Nat) (mr : Nat → Bool) (dn : Nat → Nat) (dt : Nat → Bool) : Prop := dn = mi ∧ (∀ p, p < 8 → dt p = !(mr p)) ∧ ∀ p, p < 8 → mi p ≤ mL
theorem iD_up {mL mL' : Nat} {mi dn : Nat → Nat} {mr dt : Nat → Bool} (hle : mL ≤ mL') (D : iD mL mi mr dn dt) : iD mL' mi mr dn dt := ⟨D.1, D.2.1, fun p hp => Nat.le_trans (D.2.2 p hp) hle⟩
theorem iD_write {mL pg : Nat} {mi dn pn : Nat → Nat} {mr dt : Nat → Bool} {mk : Nat → Int32} (he : pn pg = znum mk pg mL) (D : iD mL mi mr dn dt) : iD mL (va_up mi pg (znum mk pg mL)) (va_up mr pg true) (va_up dn pg (pn pg)) (va_up dt pg false) := by
  refine ⟨by rw [D.1, he], fun p hp => ?_, fun p hp => ?_⟩
  · by_cases q : p = pg
    · subst q; simp only [va_up_self]; rfl
    · rw [va_up_ne _ _ q, va_up_ne _ _ q]; exact D.2.1 p hp
  · by_cases q : p = pg
    · subst q; rw [va_up_self]; exact znum_le _ _ _
    · rw [va_up_ne _ _ q]; exact D.2.2 p hp
theorem iD_tear {mL pg : Nat} {mi dn : Nat → Nat} {mr dt : Nat → Bool} (D : iD mL mi mr dn dt) : iD mL mi (va_up mr pg false) dn (va_up dt pg true) := by
  refine ⟨D.1, fun p hp => ?_, D.2.2⟩
  by_cases q : p = pg
  · subst q; simp only [va_up_self]; rfl
  · rw [va_up_ne _ _ q, va_up_ne _ _ q]; exact D.2.1 p hp
theorem iD_lose {mL : Nat} {mi dn : Nat → Nat} {mr dt : Nat → Bool} (D : iD mL mi mr dn dt) : iD mL mi (zfill mr false 8) dn (zfill dt true 8) :=
  ⟨D.1, fun p hp => by simp only [zfill, if_pos hp]; rfl, D.2.2⟩
/-- the finished backups of both sides -/
def iB (mL mB : Nat) (mt mf : Nat → Bool) (mst me : Nat → Nat) (cp : Nat → Int32) (oK fK : Nat) (bF : Nat → Bool) (bS bE bM : Nat → Nat) (im : Nat → Nat → Int32) : Prop :=
  (1 ≤ oK ∧ oK ≤ mB + 1 ∧ fK = zful mt mf mB ∧ mst 0 = 0) ∧
  (0 < mB → oK ≤ mB ∧ mf oK = true) ∧
  (∀ b, 1 ≤ b → (mt b = true ↔ oK ≤ b ∧ b ≤ mB)) ∧
  (∀ i, i < mB → bF i = mf (i + 1) ∧ bS i = mst (i + 1) ∧ bE i = me (i + 1) ∧ bM i = zimb cp (i + 1) 8 ∧ ∀ p, p < 8 → im i p = cp ((i + 1) * 8 + p)) ∧
  (∀ j, okc (cp j) ∧ kN (cp j) ≤ mL) ∧
  (∀ b, mst b ≤ mL ∧ me b ≤ mL) ∧
  (∀ b, 1 ≤ b → b ≤ mB → (∀ p, p < 8 → kN (cp (b * 8 + p)) ≤ me b) ∧ (mf b = true → ∀ p, p < 8 → ¬ cp (b * 8 + p) < 0)) ∧
  (∀ b c, 1 ≤ b → b ≤ c → c ≤ mB → me b ≤ me c)
theorem iB_up {mL mL' mB oK fK : Nat} {mt mf bF : Nat → Bool} {mst me bS bE bM : Nat → Nat} {cp : Nat → Int32} {im : Nat → Nat → Int32} (hle : mL ≤ mL') (B : iB mL mB mt mf mst me cp oK fK bF bS bE bM im) : iB mL' mB mt mf mst me cp oK fK bF bS bE bM im := by
  obtain ⟨a, b, c, d, f, g, h, i⟩ := B
  exact ⟨a, b, c, d, fun j => ⟨(f j).1, Nat.le_trans (f j).2 hle⟩, fun b => ⟨Nat.le_trans (g b).1 hle, Nat.le_trans (g b).2 hle⟩, h, i⟩
theorem zful_cong {mt mf mt' mf' : Nat → Bool} : ∀ n, (∀ b, 1 ≤ b → b ≤ n → mt' b = mt b ∧ mf' b = mf b) → zful mt' mf' n = zful mt mf n := by
  intro n
  induction n with
  | zero => intro _; rfl
  | succ n ih =>
    intro h
    obtain ⟨h1, h2⟩ := h (n + 1) (by omega) (by omega)
    simp only [zful, h1, h2, ih (fun j a b => h j a (by omega))]
theorem zimb_cong {cp cp' : Nat → Int32} {b : Nat} : ∀ n, (∀ p, p < n → cp' (b * 8 + p) = cp (b * 8 + p)) → zimb cp' b n = zimb cp b n := by
  intro n
  induction n with
  | zero => intro _; rfl
  | succ n ih =>
    intro h
    simp only [zimb, h n (by omega), ih (fun j a => h j (by omega))]
theorem zimb_0 {cp : Nat → Int32} {b : Nat} : ∀ n, (∀ p, p < n → cp (b * 8 + p) = -1) → zimb cp b n = 0 := by
  intro n
  induction n with
  | zero => intro _; rfl
  | succ n ih =>
    intro h
    rw [zimb, ih (fun j a => h j (by omega)), h n (by omega), if_neg (by decide)]
theorem zimb_le (cp : Nat → Int32) (b : Nat) : ∀ n, zimb cp b n ≤ n
  | 0 => Nat.le_refl _
  | n + 1 => by
    have := zimb_le cp b n
    simp only [zimb]
    split <;> omega
theorem zclr_at (cp : Nat → Int32) (b : Nat) : ∀ n j, zclr cp b n j = if b * 8 ≤ j ∧ j < b * 8 + n then -1 else cp j
  | 0, j => by rw [zclr, if_neg (by omega)]
  | n + 1, j => by
    rw [zclr]
    by_cases q : j = b * 8 + n
    · subst q
      rw [va_up_self, if_pos (by omega)]
    · rw [va_up_ne _ _ q, zclr_at cp b n j]
      by_cases w : b * 8 ≤ j ∧ j < b * 8 + n
      · rw [if_pos w, if_pos (by omega)]
      · rw [if_neg w, if_neg (by omega)]
theorem zvis_at (cp : Nat → Int32) (nu : Nat → Nat) (b p0 s0 : Nat) (fl : Bool) : ∀ n j, zvis cp nu b p0 s0 fl n j = if (b * 8 + p0 ≤ j ∧ j < b * 8 + p0 + n) ∧ (fl = true ∨ s0 < nu (j - b * 8)) then nI (nu (j - b * 8)) else cp j
  | 0, j => by rw [zvis, if_neg (fun z => by omega)]
  | n + 1, j => by
    rw [zvis]
    by_cases c : fl = true ∨ s0 < nu (p0 + n)
    · rw [if_pos c]
      by_cases q : j = b * 8 + (p0 + n)
      · subst q
        rw [va_up_self, show b * 8 + (p0 + n) - b * 8 = p0 + n by omega, if_pos ⟨by omega, c⟩]
      · rw [va_up_ne _ _ q, zvis_at cp nu b p0 s0 fl n j]
        by_cases w : (b * 8 + p0 ≤ j ∧ j < b * 8 + p0 + n) ∧ (fl = true ∨ s0 < nu (j - b * 8))
        · rw [if_pos w, if_pos ⟨by omega, w.2⟩]
        · rw [if_neg w, if_neg (fun z => w ⟨by omega, z.2⟩)]
    · rw [if_neg c, zvis_at cp nu b p0 s0 fl n j]
      by_cases w : (b * 8 + p0 ≤ j ∧ j < b * 8 + p0 + n) ∧ (fl = true ∨ s0 < nu (j - b * 8))
      · rw [if_pos w, if_pos ⟨by omega, w.2⟩]
      · rw [if_neg w, if_neg (fun z => ?_)]
        by_cases q : j = b * 8 + (p0 + n)
        · rw [q, show b * 8 + (p0 + n) - b * 8 = p0 + n by omega] at z
          exact c z.2
        · exact w ⟨by omega, z.2⟩
theorem zti_at (im : Nat → Int32) (nu : Nat → Nat) (v0 s0 : Nat) (fl : Bool) : ∀ n p, zti im nu v0 s0 fl n p = if (v0 ≤ p ∧ p < v0 + n) ∧ (fl = true ∨ s0 < nu p) then nI (nu p) else im p
  | 0, p => by rw [zti, if_neg (fun z => by omega)]
  | n + 1, p => by
    rw [zti]
    by_cases c : fl = true ∨ s0 < nu (v0 + n)
    · rw [if_pos c]
      by_cases q : p = v0 + n
      · subst q
        rw [va_up_self, if_pos ⟨by omega, c⟩]
      · rw [va_up_ne _ _ q, zti_at im nu v0 s0 fl n p]
        by_cases w : (v0 ≤ p ∧ p < v0 + n) ∧ (fl = true ∨ s0 < nu p)
        · rw [if_pos w, if_pos ⟨by omega, w.2⟩]
        · rw [if_neg w, if_neg (fun z => w ⟨by omega, z.2⟩)]
    · rw [if_neg c, zti_at im nu v0 s0 fl n p]
      by_cases w : (v0 ≤ p ∧ p < v0 + n) ∧ (fl = true ∨ s0 < nu p)
      · rw [if_pos w, if_pos ⟨by omega, w.2⟩]
      · rw [if_neg w, if_neg (fun z => ?_)]
        by_cases q : p = v0 + n
        · rw [q] at z
          exact c z.2
        · exact w ⟨by omega, z.2⟩
theorem zimb_up {cp : Nat → Int32} {b p v : Nat} (hv : v < 2 ^ 31) (hq : cp (b * 8 + p) = -1) : ∀ n, zimb (va_up cp (b * 8 + p) (nI v)) b n = zimb cp b n + (if p < n then 1 else 0)
  | 0 => by rw [if_neg (by omega)]; rfl
  | n + 1 => by
    rw [zimb, zimb, zimb_up hv hq n]
    by_cases q : n = p
    · subst q
      rw [va_up_self, hq, if_neg (by omega), if_pos (nI_pos hv), if_neg (by decide), if_pos (by omega)]
    · rw [va_up_ne _ _ (by omega)]
      by_cases w : p < n
      · rw [if_pos w, if_pos (show p < n + 1 by omega)]; omega
      · rw [if_neg w, if_neg (show ¬ p < n + 1 by omega)]; omega
theorem zvis_cnt {cp : Nat → Int32} {nu : Nat → Nat} {b p0 s0 : Nat} {fl : Bool} (hnu : ∀ p, nu p < 2 ^ 31) (hq : ∀ p, p0 ≤ p → p < 8 → cp (b * 8 + p) = -1) : ∀ n, p0 + n ≤ 8 → zimb (zvis cp nu b p0 s0 fl n) b 8 = ztc (zimb cp b 8) nu p0 s0 fl n
  | 0, _ => rfl
  | n + 1, h => by
    have ih := zvis_cnt (fl := fl) (s0 := s0) hnu hq n (by omega)
    rw [zvis, ztc]
    by_cases c : fl = true ∨ s0 < nu (p0 + n)
    · rw [if_pos c, if_pos c, zimb_up (hnu _) (by rw [zvis_at, if_neg (fun z => by omega)]; exact hq _ (by omega) (by omega)) 8, if_pos (by omega), ih]
    · rw [if_neg c, if_neg c, ih]
/-- the running backup's places -/
def iV (mB : Nat) (mf : Nat → Bool) (cp : Nat → Int32) (lv : Nat) (img : Nat → Int32) : Prop :=
  (∀ p, p < 8 → img p = cp ((mB + 1) * 8 + p)) ∧ (∀ p, 8 - lv ≤ p → p < 8 → cp ((mB + 1) * 8 + p) = -1) ∧ (mf (mB + 1) = true → ∀ p, p < 8 - lv → ¬ cp ((mB + 1) * 8 + p) < 0) ∧ (mB = 0 → mf 1 = true)
def iR (cT : Nat → ClassId) (t mB : Nat) (mf : Nat → Bool) (mst : Nat → Nat) (cp : Nat → Int32) (ml : Int32) (rv : Value) (plA pl : va_W) : Prop :=
  (rv = .null ∧ ml = -2 ∧ pl = plA ∧ 2 * mB ≤ t) ∨
  ∃ (rB bA cE lv : Nat) (img : Nat → Int32), rv = .ref rB ∧ ml = nI lv ∧ 1 ≤ lv ∧ lv ≤ 8 ∧ 2 * mB + 1 ≤ t ∧ pl = [(rB, bkE (mf (mB + 1)) (mst (mB + 1)) bA cE (zimb cp (mB + 1) 8) (8 - lv)), (bA, Sum.inl (cT 0, 8, .inl img))] ++ plA ∧ iV mB mf cp lv img
theorem iR_next {cT : Nat → ClassId} {t mB : Nat} {mf : Nat → Bool} {mst : Nat → Nat} {cp : Nat → Int32} {ml : Int32} {rv : Value} {plA pl : va_W} (R : iR cT t mB mf mst cp ml rv plA pl) : iR cT (t + 1) mB mf mst cp ml rv plA pl := by
  rcases R with ⟨a, b, c, d⟩ | ⟨rB, bA, cE, lv, img, a, b, c, d, f, g⟩
  · exact Or.inl ⟨a, b, c, by omega⟩
  · exact Or.inr ⟨rB, bA, cE, lv, img, a, b, c, d, by omega, g⟩
/-- a backup begins -/
theorem iB_start {mL mB oK fK : Nat} {mt mf bF : Nat → Bool} {mst me bS bE bM : Nat → Nat} {cp : Nat → Int32} {im : Nat → Nat → Int32} {b : Bool} (B : iB mL mB mt mf mst me cp oK fK bF bS bE bM im) :
    iB mL mB mt (va_up mf (mB + 1) b) (va_up mst (mB + 1) mL) me (zclr cp (mB + 1) 8) oK fK bF bS bE bM im := by
  obtain ⟨⟨a3, a4, a5, a7⟩, h2, h3, h4, h5, h6, h7, h8⟩ := B
  have hc : ∀ c, c ≤ mB → ∀ p, p < 8 → zclr cp (mB + 1) 8 (c * 8 + p) = cp (c * 8 + p) := fun c hc p hp => by rw [zclr_at, if_neg (by omega)]
  refine ⟨⟨a3, a4, ?_, ?_⟩, fun q => ?_, h3, fun i hi => ?_, fun j => ?_, fun c => ?_, fun c c1 c2 => ?_, h8⟩
  · rw [a5]
    exact (zful_cong mB (fun c _ c2 => ⟨rfl, va_up_ne _ _ (by omega)⟩)).symm
  · rw [va_up_ne _ _ (by omega)]; exact a7
  · obtain ⟨q1, q2⟩ := h2 q
    exact ⟨q1, by rw [va_up_ne _ _ (by omega)]; exact q2⟩
  · obtain ⟨b1, b2, b3, b4, b5⟩ := h4 i hi
    refine ⟨by rw [va_up_ne _ _ (by omega)]; exact b1, by rw [va_up_ne _ _ (by omega)]; exact b2, b3, ?_, fun p hp => ?_⟩
    · rw [b4]
      exact (zimb_cong 8 (fun p hp => hc (i + 1) (by omega) p hp)).symm
    · rw [hc (i + 1) (by omega) p hp]; exact b5 p hp
  · rw [zclr_at]
    by_cases q : (mB + 1) * 8 ≤ j ∧ j < (mB + 1) * 8 + 8
    · rw [if_pos q]; exact ⟨Or.inl rfl, by rw [kN_m1]; omega⟩
    · rw [if_neg q]; exact h5 j
  · refine ⟨?_, (h6 c).2⟩
    by_cases q : c = mB + 1
    · subst q; rw [va_up_self]; exact Nat.le_refl _
    · rw [va_up_ne _ _ q]; exact (h6 c).1
  · obtain ⟨b1, b2⟩ := h7 c c1 c2
    refine ⟨fun p hp => by rw [hc c c2 p hp]; exact b1 p hp, fun q p hp => ?_⟩
    rw [va_up_ne _ _ (by omega)] at q
    rw [hc c c2 p hp]
    exact b2 q p hp
theorem iR_start {cT : Nat → ClassId} {t mL mB rB rA : Nat} {mt mf : Nat → Bool} {mst : Nat → Nat} {cp : Nat → Int32} {plA : va_W} {b : Bool} (ht : 2 * mB ≤ t) (hz : b = true ∨ ¬ zful mt mf mB = 0) :
    iR cT (t + 1) mB (va_up mf (mB + 1) b) (va_up mst (mB + 1) mL) (zclr cp (mB + 1) 8) (nI 8) (.ref rB) plA ([(rB, bkE b mL rA 0 0 0), (rA, Sum.inl (cT 0, 8, .inl (zfill (fun _ => nI 0) (-1) 8)))] ++ plA) := by
  have hm : ∀ p, p < 8 → zclr cp (mB + 1) 8 ((mB + 1) * 8 + p) = -1 := fun p hp => by rw [zclr_at, if_pos (by omega)]
  refine Or.inr ⟨rB, rA, 0, 8, zfill (fun _ => nI 0) (-1) 8, rfl, rfl, by omega, by omega, by omega, ?_, fun p hp => ?_, fun p _ hp => hm p hp, fun _ p hp => absurd hp (by omega), fun q => ?_⟩
  · rw [va_up_self, va_up_self, zimb_0 8 hm]
  · rw [hm p hp, zfill, if_pos hp]
  · subst q
    rcases hz with hz | hz
    · rw [hz]; exact va_up_self _ _ _
    · exact absurd rfl hz
/-- pages are visited -/
theorem iB_vis {mL mB oK fK p0 n : Nat} {mt mf bF : Nat → Bool} {mst me bS bE bM : Nat → Nat} {cp mk : Nat → Int32} {im : Nat → Nat → Int32} {s0 : Nat} {fl : Bool} (hL : mL ≤ 1000) (hn : p0 + n ≤ 8) (B : iB mL mB mt mf mst me cp oK fK bF bS bE bM im) :
    iB mL mB mt mf mst me (zvis cp (fun p => znum mk p mL) (mB + 1) p0 s0 fl n) oK fK bF bS bE bM im := by
  obtain ⟨h1, h2, h3, h4, h5, h6, h7, h8⟩ := B
  have hc : ∀ c, c ≤ mB → ∀ p, p < 8 → zvis cp (fun p => znum mk p mL) (mB + 1) p0 s0 fl n (c * 8 + p) = cp (c * 8 + p) := fun c hc p hp => by rw [zvis_at, if_neg (fun z => by omega)]
  refine ⟨h1, h2, h3, fun i hi => ?_, fun j => ?_, h6, fun c c1 c2 => ?_, h8⟩
  · obtain ⟨b1, b2, b3, b4, b5⟩ := h4 i hi
    refine ⟨b1, b2, b3, ?_, fun p hp => ?_⟩
    · rw [b4]
      exact (zimb_cong 8 (fun p hp => hc (i + 1) (by omega) p hp)).symm
    · rw [hc (i + 1) (by omega) p hp]; exact b5 p hp
  · rw [zvis_at]
    by_cases q : ((mB + 1) * 8 + p0 ≤ j ∧ j < (mB + 1) * 8 + p0 + n) ∧ (fl = true ∨ s0 < (fun p => znum mk p mL) (j - (mB + 1) * 8))
    · rw [if_pos q]
      have hz := znum_le mk (j - (mB + 1) * 8) mL
      show okc (nI (znum mk (j - (mB + 1) * 8) mL)) ∧ kN (nI (znum mk (j - (mB + 1) * 8) mL)) ≤ mL
      rw [okc, kN_nI (by omega)]
      exact ⟨Or.inr ⟨rfl, by omega⟩, hz⟩
    · rw [if_neg q]; exact h5 j
  · obtain ⟨b1, b2⟩ := h7 c c1 c2
    exact ⟨fun p hp => by rw [hc c c2 p hp]; exact b1 p hp, fun q p hp => by rw [hc c c2 p hp]; exact b2 q p hp⟩
theorem iV_vis {mL mB lv n s0 : Nat} {mf : Nat → Bool} {cp mk img : Nat → Int32} {pn : Nat → Nat} (hL : mL ≤ 1000) (hn : n ≤ lv) (hl : lv ≤ 8) (hp : ∀ p, pn p = znum mk p mL) (V : iV mB mf cp lv img) :
    iV mB mf (zvis cp (fun p => znum mk p mL) (mB + 1) (8 - lv) s0 (mf (mB + 1)) n) (lv - n) (zti img pn (8 - lv) s0 (mf (mB + 1)) n) := by
  obtain ⟨v1, v2, v3, v4⟩ := V
  refine ⟨fun p h8 => ?_, fun p h1 h8 => ?_, fun q p h1 => ?_, v4⟩
  · rw [zvis_at, zti_at, show (mB + 1) * 8 + p - (mB + 1) * 8 = p by omega, hp p, v1 p h8]
    by_cases c : (8 - lv ≤ p ∧ p < 8 - lv + n) ∧ (mf (mB + 1) = true ∨ s0 < znum mk p mL)
    · rw [if_pos c, if_pos ⟨by omega, c.2⟩]
    · rw [if_neg c, if_neg (fun z => c ⟨by omega, z.2⟩)]
  · rw [zvis_at, if_neg (fun z => by omega)]
    exact v2 p (by omega) h8
  · rw [zvis_at]
    by_cases c : (8 - lv ≤ p ∧ p < 8 - lv + n)
    · rw [if_pos ⟨by omega, Or.inl q⟩]
      have hz := znum_le mk ((mB + 1) * 8 + p - (mB + 1) * 8) mL
      exact nI_pos (by show znum mk ((mB + 1) * 8 + p - (mB + 1) * 8) mL < 2 ^ 31; omega)
    · rw [if_neg (fun z => by omega)]
      exact v3 q p (by omega)
/-- the list's array and the finished backups' cells -/
def iP (cT : Nat → ClassId) (tE mB ae cap : Nat) (ea : Nat → Option Nat) (ba ia : Nat → Nat) (bF : Nat → Bool) (bS bE bM bV : Nat → Nat) (im : Nat → Nat → Int32) (plA : va_W) : Prop :=
  (mB = 0 ∧ ae = tE) ∨ (0 < mB ∧ mB ≤ cap ∧ cap ≤ 1000 ∧ ∃ plr, plA = [(ae, arE cT cap ea)] ++ plr ∧ (∀ i, i < mB → (ba i, bkE (bF i) (bS i) (ia i) (bE i) (bM i) (bV i)) ∈ plr ∧ (ia i, Sum.inl (cT 0, 8, .inl (im i))) ∈ plr) ∧ ∀ i, i < mB → ea i = some (ba i))
theorem iP_po {cT : Nat → ClassId} {tE mB ae cap : Nat} {ea : Nat → Option Nat} {ba ia : Nat → Nat} {bF : Nat → Bool} {bS bE bM bV : Nat → Nat} {im : Nat → Nat → Int32} {plA : va_W} (P : iP cT tE mB ae cap ea ba ia bF bS bE bM bV im plA) : zPo cT plA mB ae cap ea ba ia bF bS bE bM bV im := by
  rcases P with ⟨e, _⟩ | ⟨a, b, c, plr, e, m, q⟩
  · subst e
    exact ⟨fun i hi => absurd hi (Nat.not_lt_zero _), fun h => absurd h (Nat.lt_irrefl _)⟩
  · subst e
    exact ⟨fun i hi => ⟨List.mem_append_right _ (m i hi).1, List.mem_append_right _ (m i hi).2⟩, fun _ => ⟨by simp, b, c, q⟩⟩
theorem zPo_mono {cT : Nat → ClassId} {mB ae cap : Nat} {ea : Nat → Option Nat} {ba ia : Nat → Nat} {bF : Nat → Bool} {bS bE bM bV : Nat → Nat} {im : Nat → Nat → Int32} {plA pl : va_W} (h : ∀ q ∈ plA, q ∈ pl) (P : zPo cT plA mB ae cap ea ba ia bF bS bE bM bV im) : zPo cT pl mB ae cap ea ba ia bF bS bE bM bV im :=
  ⟨fun i hi => ⟨h _ (P.1 i hi).1, h _ (P.1 i hi).2⟩, fun q => ⟨h _ (P.2 q).1, (P.2 q).2⟩⟩
theorem iR_sub {cT : Nat → ClassId} {t mB : Nat} {mf : Nat → Bool} {mst : Nat → Nat} {cp : Nat → Int32} {ml : Int32} {rv : Value} {plA pl : va_W} (R : iR cT t mB mf mst cp ml rv plA pl) : ∀ q ∈ plA, q ∈ pl := by
  rcases R with ⟨a, b, c, d⟩ | ⟨rB, bA, cE, lv, img, a, b, c, d, f, g, _⟩
  · subst c; exact fun q h => h
  · subst g; exact fun q h => List.mem_append_right _ h
theorem iP_add {cT : Nat → ClassId} {tE mB ae cap rB bA cS cE cM cV : Nat} {ea : Nat → Option Nat} {ba ia : Nat → Nat} {bF : Nat → Bool} {bS bE bM bV : Nat → Nat} {im : Nat → Nat → Int32} {plr : va_W} {cF : Bool} {g : Nat → Int32}
    (m : ∀ i, i < mB → (ba i, bkE (bF i) (bS i) (ia i) (bE i) (bM i) (bV i)) ∈ plr ∧ (ia i, Sum.inl (cT 0, 8, .inl (im i))) ∈ plr) (hn : mB + 1 ≤ cap) (hc : cap ≤ 1000) (he : ∀ i, i < mB → ea i = some (ba i)) (hen : ea mB = some rB) :
    iP cT tE (mB + 1) ae cap ea (va_up ba mB rB) (va_up ia mB bA) (va_up bF mB cF) (va_up bS mB cS) (va_up bE mB cE) (va_up bM mB cM) (va_up bV mB cV) (va_up im mB g) ([(ae, arE cT cap ea), (rB, bkE cF cS bA cE cM cV), (bA, Sum.inl (cT 0, 8, .inl g))] ++ plr) := by
  refine Or.inr ⟨by omega, hn, hc, [(rB, bkE cF cS bA cE cM cV), (bA, Sum.inl (cT 0, 8, .inl g))] ++ plr, rfl, fun i hi => ?_, fun i hi => ?_⟩
  · by_cases q : i = mB
    · subst q
      simp only [va_up_self]
      exact ⟨List.mem_append_left _ (by simp), List.mem_append_left _ (by simp)⟩
    · simp only [va_up_ne _ _ q]
      have := m i (by omega)
      exact ⟨List.mem_append_right _ this.1, List.mem_append_right _ this.2⟩
  · by_cases q : i = mB
    · subst q; rw [va_up_self]; exact hen
    · rw [va_up_ne _ _ q]; exact he i (by omega)
/-- a backup is finished: without what goes with it -/
theorem iB_fin {mL mB oK fK cM : Nat} {mt mf bF : Nat → Bool} {mst me bS bE bM : Nat → Nat} {cp img : Nat → Int32} {im : Nat → Nat → Int32} (V : iV mB mf cp 0 img) (hM : cM = zimb cp (mB + 1) 8) (B : iB mL mB mt mf mst me cp oK fK bF bS bE bM im) :
    iB mL (mB + 1) (va_up mt (mB + 1) true) mf mst (va_up me (mB + 1) mL) cp oK (if mf (mB + 1) = true then fK + 1 else fK) (va_up bF mB (mf (mB + 1))) (va_up bS mB (mst (mB + 1))) (va_up bE mB mL) (va_up bM mB cM) (va_up im mB img) := by
  obtain ⟨⟨a3, a4, a5, a7⟩, h2, h3, h4, h5, h6, h7, h8⟩ := B
  obtain ⟨v1, v2, v3, v4⟩ := V
  have hful : zful (va_up mt (mB + 1) true) mf (mB + 1) = (if mf (mB + 1) = true then fK + 1 else fK) := by
    rw [zful, zful_cong (mt := mt) (mf := mf) mB (fun c _ c2 => ⟨va_up_ne _ _ (by omega), rfl⟩), va_up_self, ← a5]
    by_cases q : mf (mB + 1) = true
    · rw [if_pos ⟨rfl, q⟩, if_pos q]
    · rw [if_neg (fun z => q z.2), if_neg q]; omega
  refine ⟨⟨a3, by omega, hful.symm, a7⟩, fun _ => ?_, fun b hb => ?_, fun i hi => ?_, h5, fun b => ?_, fun b b1 b2 => ?_, fun b c b1 b2 b3 => ?_⟩
  · rcases Nat.eq_zero_or_pos mB with q | q
    · have e1 : oK = 1 := by omega
      rw [e1]
      exact ⟨by omega, v4 q⟩
    · exact ⟨by have := (h2 q).1; omega, (h2 q).2⟩
  · by_cases q : b = mB + 1
    · subst q
      rw [va_up_self]
      exact ⟨fun _ => ⟨a4, Nat.le_refl _⟩, fun _ => rfl⟩
    · rw [va_up_ne _ _ q, h3 b hb]
      exact ⟨fun z => ⟨z.1, by omega⟩, fun z => ⟨z.1, by omega⟩⟩
  · by_cases q : i = mB
    · subst q
      simp only [va_up_self]
      exact ⟨trivial, trivial, trivial, hM, v1⟩
    · obtain ⟨b1, b2, b3, b4, b5⟩ := h4 i (by omega)
      simp only [va_up_ne _ _ q]
      exact ⟨b1, b2, by rw [va_up_ne _ _ (by omega)]; exact b3, b4, b5⟩
  · refine ⟨(h6 b).1, ?_⟩
    by_cases q : b = mB + 1
    · subst q; rw [va_up_self]; exact Nat.le_refl _
    · rw [va_up_ne _ _ q]; exact (h6 b).2
  · by_cases q : b = mB + 1
    · subst q
      rw [va_up_self]
      exact ⟨fun p _ => (h5 _).2, fun z p hp => v3 z p (by omega)⟩
    · rw [va_up_ne _ _ q]; exact h7 b b1 (by omega)
  · by_cases q : c = mB + 1
    · subst q
      rw [va_up_self]
      by_cases w : b = mB + 1
      · subst w; rw [va_up_self]; exact Nat.le_refl _
      · rw [va_up_ne _ _ w]; exact (h6 b).2
    · rw [va_up_ne _ _ q, va_up_ne _ _ (by omega)]; exact h8 b c b1 b2 (by omega)
/-- which full one is kept next -/
theorem znext (mf : Nat → Bool) : ∀ d a, mf (a + d) = true → ∃ r, a ≤ r ∧ r ≤ a + d ∧ mf r = true ∧ ∀ b, a ≤ b → b < r → mf b = false
  | 0, a, h => ⟨a, Nat.le_refl _, Nat.le_refl _, h, fun b h1 h2 => by omega⟩
  | d + 1, a, h => by
    by_cases q : mf a = true
    · exact ⟨a, Nat.le_refl _, by omega, q, fun b h1 h2 => by omega⟩
    · obtain ⟨r, r1, r2, r3, r4⟩ := znext mf d (a + 1) (by rw [show a + 1 + d = a + (d + 1) by omega]; exact h)
      refine ⟨r, by omega, by omega, r3, fun b h1 h2 => ?_⟩
      by_cases w : b = a
      · subst w; simpa using q
      · exact r4 b (by omega) h2
theorem zful_drop {mt mf : Nat → Bool} {oK r : Nat} (h0 : 1 ≤ oK) (hr : oK < r) (ho : mt oK = true ∧ mf oK = true) (hl : ∀ b, 1 ≤ b → b < oK → mt b = false) (hm : ∀ b, oK < b → b < r → mf b = false) : ∀ n, zful mt mf n = zful (zdr mt r) mf n + (if oK ≤ n then 1 else 0)
  | 0 => by rw [if_neg (by omega)]; rfl
  | n + 1 => by
    rw [zful, zful, zful_drop h0 hr ho hl hm n, zdr]
    by_cases q : n + 1 < r
    · rw [if_pos (show 1 ≤ n + 1 ∧ n + 1 < r from ⟨by omega, q⟩), if_neg (show ¬ (false = true ∧ mf (n + 1) = true) from fun z => absurd z.1 (by decide))]
      by_cases w : n + 1 = oK
      · subst w
        rw [if_pos ho, if_neg (by omega), if_pos (Nat.le_refl _)]
      · by_cases w2 : n + 1 < oK
        · rw [if_neg (show ¬ (mt (n + 1) = true ∧ mf (n + 1) = true) from fun z => by rw [hl _ (by omega) w2] at z; exact absurd z.1 (by decide)), if_neg (by omega), if_neg (by omega)]
        · rw [if_neg (show ¬ (mt (n + 1) = true ∧ mf (n + 1) = true) from fun z => by rw [hm _ (by omega) q] at z; exact absurd z.2 (by decide)), if_pos (by omega), if_pos (by omega)]
    · rw [if_neg (show ¬ (1 ≤ n + 1 ∧ n + 1 < r) from fun z => q z.2), if_pos (show oK ≤ n by omega), if_pos (show oK ≤ n + 1 by omega)]
      omega
theorem iB_drop {mL mB oK fK cM r : Nat} {mt mf bF : Nat → Bool} {mst me bS bE bM : Nat → Nat} {cp img : Nat → Int32} {im : Nat → Nat → Int32} (V : iV mB mf cp 0 img) (hM : cM = zimb cp (mB + 1) 8) (B : iB mL mB mt mf mst me cp oK fK bF bS bE bM im)
    (hf : mf (mB + 1) = true) (h0 : 0 < mB) (hr1 : oK + 1 ≤ r) (hr2 : r ≤ mB + 1) (hr3 : mf r = true) (hr4 : ∀ b, oK + 1 ≤ b → b < r → mf b = false) :
    iB mL (mB + 1) (zdr (va_up mt (mB + 1) true) r) mf mst (va_up me (mB + 1) mL) cp r (fK + 1 - 1) (va_up bF mB (mf (mB + 1))) (va_up bS mB (mst (mB + 1))) (va_up bE mB mL) (va_up bM mB cM) (va_up im mB img) ∧ zful (va_up mt (mB + 1) true) mf (mB + 1) = fK + 1 := by
  obtain ⟨⟨a3, a4, a5, a7⟩, h2, h3, h4, h5, h6, h7, h8⟩ := B
  obtain ⟨⟨k3, k4, k5, k7⟩, g2, g3, g4, g5, g6, g7, g8⟩ := iB_fin V hM ⟨⟨a3, a4, a5, a7⟩, h2, h3, h4, h5, h6, h7, h8⟩
  rw [if_pos hf] at k5
  have ho := h2 h0
  have hd := zful_drop (mt := va_up mt (mB + 1) true) (mf := mf) a3 (show oK < r by omega) ⟨(g3 oK a3).mpr ⟨Nat.le_refl _, by omega⟩, ho.2⟩ (fun b b1 b2 => by
    have := g3 b b1
    cases e : va_up mt (mB + 1) true b
    · rfl
    · have := (this.mp e).1; omega) (fun b b1 b2 => hr4 b (by omega) b2) (mB + 1)
  rw [if_pos (by omega), ← k5] at hd
  refine ⟨⟨⟨by omega, by omega, by omega, k7⟩, fun _ => ⟨by omega, hr3⟩, fun b hb => ?_, g4, g5, g6, g7, g8⟩, k5.symm⟩
  rw [zdr]
  by_cases q : 1 ≤ b ∧ b < r
  · rw [if_pos q]
    exact ⟨fun z => absurd z (by decide), fun z => by omega⟩
  · rw [if_neg q, g3 b hb]
    exact ⟨fun z => ⟨by omega, z.2⟩, fun z => ⟨by omega, z.2⟩⟩
/-- the best image, and the others that are asked for -/
theorem zbst_eq {mt : Nat → Bool} {cp : Nat → Int32} {im : Nat → Nat → Int32} {pg b0 oK : Nat} : ∀ n, (∀ b, 1 ≤ b → b ≤ n → (mt b = true ↔ oK ≤ b)) → (∀ i, i < n → im i pg = cp ((i + 1) * 8 + pg)) → zbst mt cp pg b0 n = max b0 (zkbs im pg oK n) := by
  intro n
  induction n with
  | zero => intro _ _; simp only [zbst, zkbs]; omega
  | succ n ih =>
    intro h1 h2
    have ih := ih (fun b a c => h1 b a (by omega)) (fun i hi => h2 i (by omega))
    simp only [zbst, zkbs]
    by_cases q : oK ≤ n + 1
    · rw [if_pos ((h1 _ (by omega) (Nat.le_refl _)).mpr q), if_pos q, ih, Nat.add_sub_cancel, h2 n (by omega)]; omega
    · rw [if_neg (fun z => q ((h1 _ (by omega) (Nat.le_refl _)).mp z)), if_neg q, ih]
theorem zkbs_le {im : Nat → Nat → Int32} {pg oK X : Nat} : ∀ n, (∀ i, i < n → kN (im i pg) ≤ X) → zkbs im pg oK n ≤ X := by
  intro n
  induction n with
  | zero => intro _; simp only [zkbs]; omega
  | succ n ih =>
    intro h
    have i1 := ih (fun i hi => h i (by omega))
    have i2 := h n (by omega)
    simp only [zkbs, Nat.add_sub_cancel]
    by_cases q : oK ≤ n + 1
    · rw [if_pos q]; omega
    · rw [if_neg q]; exact i1
theorem okc_m1 {x : Int32} (h : okc x) : ¬ x < 0 ↔ ¬ x = -1 := by
  rcases h with h | ⟨h, h2⟩
  · subst h; exact ⟨fun z => absurd (by decide) z, fun z => absurd rfl z⟩
  · refine ⟨fun _ z => ?_, fun _ => ?_⟩
    · exact nI_ne_m1 (n := kN x) (by omega) (h.symm.trans z)
    · rw [h]; exact nI_pos (by omega)
theorem zimk_eq {mt : Nat → Bool} {cp : Nat → Int32} {im : Nat → Nat → Int32} {pg oK : Nat} (ho : ∀ j, okc (cp j)) : ∀ n, (∀ b, 1 ≤ b → b ≤ n → (mt b = true ↔ oK ≤ b)) → (∀ i, i < n → im i pg = cp ((i + 1) * 8 + pg)) → zimk mt cp pg n = zkim im pg oK n := by
  intro n
  induction n with
  | zero => intro _ _; rfl
  | succ n ih =>
    intro h1 h2
    have ih := ih (fun b a c => h1 b a (by omega)) (fun i hi => h2 i (by omega))
    simp only [zimk, zkim]
    rw [ih, Nat.add_sub_cancel, h2 n (by omega)]
    by_cases q : oK ≤ n + 1 ∧ ¬ cp ((n + 1) * 8 + pg) = -1
    · rw [if_pos q, if_pos ⟨(h1 _ (by omega) (Nat.le_refl _)).mpr q.1, (okc_m1 (ho _)).mpr q.2⟩]
    · rw [if_neg q, if_neg (fun z => q ⟨(h1 _ (by omega) (Nat.le_refl _)).mp z.1, (okc_m1 (ho _)).mp z.2⟩)]
theorem zlst_eq {mt : Nat → Bool} {me bE : Nat → Nat} {m oK : Nat} : ∀ n, (∀ b, 1 ≤ b → b ≤ n → (mt b = true ↔ oK ≤ b)) → (∀ i, i < n → bE i = me (i + 1)) → zleb bE oK m n = zlst mt me m n := by
  intro n
  induction n with
  | zero => intro _ _; rfl
  | succ n ih =>
    intro h1 h2
    have ih := ih (fun b a c => h1 b a (by omega)) (fun i hi => h2 i (by omega))
    simp only [zlst, zleb]
    rw [ih, Nat.add_sub_cancel, h2 n (by omega)]
    by_cases q : oK ≤ n + 1 ∧ me (n + 1) < m
    · rw [if_pos q, if_pos ⟨(h1 _ (by omega) (Nat.le_refl _)).mpr q.1, q.2⟩]
    · rw [if_neg q, if_neg (fun z => q ⟨(h1 _ (by omega) (Nat.le_refl _)).mp z.1, z.2⟩)]
theorem zlst_ok {mt : Nat → Bool} {me : Nat → Nat} {m : Nat} : ∀ n, zlst mt me m n = 0 ∨ (1 ≤ zlst mt me m n ∧ zlst mt me m n ≤ n ∧ mt (zlst mt me m n) = true ∧ me (zlst mt me m n) < m)
  | 0 => Or.inl rfl
  | n + 1 => by
    by_cases q : mt (n + 1) = true ∧ me (n + 1) < m
    · rw [zlst, if_pos q]; exact Or.inr ⟨by omega, Nat.le_refl _, q⟩
    · rw [zlst, if_neg q]
      rcases zlst_ok (mt := mt) (me := me) (m := m) n with h | ⟨h1, h2, h3⟩
      · exact Or.inl h
      · exact Or.inr ⟨h1, by omega, h3⟩
theorem zimg_le {cp : Nat → Int32} {pg X : Nat} : ∀ n, (∀ b, 1 ≤ b → b ≤ n → kN (cp (b * 8 + pg)) ≤ X) → zimg cp pg n ≤ X := by
  intro n
  induction n with
  | zero => intro _; simp only [zimg]; omega
  | succ n ih =>
    intro h
    have i1 := ih (fun b a c => h b a (by omega))
    have i2 := h (n + 1) (by omega) (Nat.le_refl _)
    simp only [zimg]
    by_cases q : ¬ cp ((n + 1) * 8 + pg) < 0
    · rw [if_pos q]; exact i2
    · rw [if_neg q]; exact i1
theorem zimg_eq {cp : Nat → Int32} {im : Nat → Nat → Int32} {pg oK : Nat} (h0 : 1 ≤ oK) (ho : ∀ j, okc (cp j)) (hf : ¬ cp (oK * 8 + pg) < 0) : ∀ n, oK ≤ n → (∀ i, i < n → im i pg = cp ((i + 1) * 8 + pg)) → zich im pg oK n = zimg cp pg n := by
  intro n
  induction n with
  | zero => intro h; omega
  | succ n ih =>
    intro hn h2
    simp only [zich, zimg]
    rw [Nat.add_sub_cancel, h2 n (by omega)]
    by_cases q : ¬ cp ((n + 1) * 8 + pg) < 0
    · rw [if_pos q, if_pos ⟨hn, (okc_m1 (ho _)).mp q⟩]
    · rw [if_neg q, if_neg (fun z => q ((okc_m1 (ho _)).mpr z.2))]
      have hne : ¬ oK = n + 1 := fun z => q (by rw [← z]; exact hf)
      exact ih (by omega) (fun i hi => h2 i (by omega))
/-- what the two sides give a page for REDO -/
theorem best_eq {mL mB oK fK : Nat} {mt mf bF mr dt : Nat → Bool} {mst me bS bE bM mi dn : Nat → Nat} {cp : Nat → Int32} {im : Nat → Nat → Int32} (B : iB mL mB mt mf mst me cp oK fK bF bS bE bM im) (D : iD mL mi mr dn dt) : ∀ p, p < 8 → max (if dt p = true then 0 else dn p) (zkbs im p oK mB) = zbst mt cp p (if mr p = true then mi p else 0) mB ∧ zbst mt cp p (if mr p = true then mi p else 0) mB ≤ mL := by
  intro p hp
  have e := zbst_eq (mt := mt) (cp := cp) (im := im) (pg := p) (b0 := if mr p = true then mi p else 0) (oK := oK) mB (fun b b1 b2 => ⟨fun z => ((B.2.2.1 b b1).mp z).1, fun z => (B.2.2.1 b b1).mpr ⟨z, b2⟩⟩) (fun i hi => (B.2.2.2.1 i hi).2.2.2.2 p hp)
  have l := zkbs_le (im := im) (pg := p) (oK := oK) (X := mL) mB (fun i hi => by rw [(B.2.2.2.1 i hi).2.2.2.2 p hp]; exact (B.2.2.2.2.1 _).2)
  have d := D.2.1 p hp
  have d2 := D.2.2 p hp
  rw [e, D.1, d]
  cases mr p
  · rw [if_pos (by rfl), if_neg (by decide)]; omega
  · rw [if_neg (by decide), if_pos rfl]; omega
