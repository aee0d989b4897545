/-! A STEP OF BOTH -/
theorem CI.step {G : gG} {h h' : gH} {x buf rd bks oq rw orw root : Nat} {bk bv t : Nat → Nat} {bl : Nat} {off : Int32} {cur und k : Nat} {Ds : Nat → Dt} {D' : Dt} {ad' : Nat → Nat} {as' : Nat → List Nat} (c : CI G h x buf rd bks oq rw orw root bk bv t bl off cur und k Ds) (f : gfr [x, rd, bk ((cur + 1) % 10), bv ((cur + 1) % 10)] h h') (w' : wfD D') (c' : clD G h' (bk ((cur + 1) % 10)) (bv ((cur + 1) % 10)) D' ad' as') (hr' : ad' 0 = root) : (∃ f, h' buf = some (oB G 500 f) ∧ ∀ j, j < bl → f j = sb_b (t j) ∧ t j < 256) ∧ scr G h' rw orw oq ∧ isVc h' [] [root] ∧ (∀ j, j < 10 → ∃ (n2 pc2 dr2 : Nat) (f : Nat → Option Nat), h' (bk j) = some (.inr (0, [.ref (bv j), .int (nI n2), .int (nI pc2), .int (nI dr2)])) ∧ h' (bv j) = some (oV G 64 f) ∧ f 0 = some root) ∧ (∀ i, i ≤ und → ∃ (ad : Nat → Nat) (as : Nat → List Nat), clD G h' (bk ((cur + 10 - i) % 10)) (bv ((cur + 10 - i) % 10)) (Ds i) ad as ∧ ad 0 = root) ∧ h' bks = h bks := by
  obtain ⟨⟨c1, fb, c2, c3⟩, ⟨c4, c4u, -⟩, ⟨f1, c5, c6⟩, ⟨o9, e9, l9, tx, bk9, at9, st9, kd9_, nu9, may9, c7, c8⟩, ⟨⟨f2, c9⟩, ⟨f3, c10⟩, a, b, d, e, c11⟩, c12, c13, c14, ⟨ci1, ci2⟩, c16⟩ := c
  have hnx : ((cur + 1) % 10) < 10 := Nat.mod_lt _ (by omega)
  obtain ⟨n0, p0, d0, g0, r1, r2, r3⟩ := c14 _ hnx
  have g : ∀ (a9 : Nat) (e9 : va_E), h a9 = some e9 → kd9 e9 ≠ 6 → kd9 e9 ≠ 3 → a9 ≠ bk ((cur + 1) % 10) → a9 ≠ bv ((cur + 1) % 10) → h' a9 = some e9 := fun a9 e9 ha h1 h2 h3 h4 => f _ _ (gnc (ne9 ha c1 (by simpa [kd9] using h1)) (gnc (ne9 ha c8 (by simpa [kd9] using h2)) (gnc h3 (gnc h4 gn0)))) ha
  have g2 : ∀ (a9 : Nat) (e9 : va_E), h a9 = some e9 → kd9 e9 ≠ 6 → kd9 e9 ≠ 3 → kd9 e9 ≠ 0 → kd9 e9 ≠ 11 → h' a9 = some e9 := fun a9 e9 ha h1 h2 h3 h4 => g a9 e9 ha h1 h2 (ne9 ha r1 (by simpa [kd9] using h3)) (ne9 ha r2 (by simpa [kd9] using h4))
  have gp : gpv h h' := fun a9 ci fs hc ha => g2 _ _ ha (by show ci ≠ 6; omega) (by show ci ≠ 3; omega) (by show ci ≠ 0; omega) (by show ci ≠ 11; omega)
  have bks1 : bks ≠ bk ((cur + 1) % 10) := ne9 c2 r1 (by simp [kd9])
  have old : ∀ j, j < 10 → j ≠ ((cur + 1) % 10) → ∀ (n2 pc2 dr2 : Nat) (f : Nat → Option Nat), h (bk j) = some (.inr (0, [.ref (bv j), .int (nI n2), .int (nI pc2), .int (nI dr2)])) → h (bv j) = some (oV G 64 f) → h' (bk j) = some (.inr (0, [.ref (bv j), .int (nI n2), .int (nI pc2), .int (nI dr2)])) ∧ h' (bv j) = some (oV G 64 f) := fun j hj hne n2 pc2 dr2 f d1 d2 =>
    ⟨g _ _ d1 (by simp [kd9]) (by simp [kd9]) (fun z => hne (ci1 _ _ hj hnx z)) (ne9 d1 r2 (by simp [kd9])), g _ _ d2 (by simp [kd9]) (by simp [kd9]) (ne9 d2 r1 (by simp [kd9])) (fun z => hne (ci2 _ _ hj hnx z))⟩
  refine ⟨⟨f1, g2 _ _ c5 (by simp [kd9]) (by simp [kd9]) (by simp [kd9]) (by simp [kd9]), c6⟩, ⟨⟨f2, g2 _ _ c9 (by simp [kd9]) (by simp [kd9]) (by simp [kd9]) (by simp [kd9])⟩, ⟨f3, g2 _ _ c10 (by simp [kd9]) (by simp [kd9]) (by simp [kd9]) (by simp [kd9])⟩, a, b, d, e, g2 _ _ c11 (by simp [kd9]) (by simp [kd9]) (by simp [kd9]) (by simp [kd9])⟩, c13.pv gp, fun j hj => ?_, fun i hi => ?_, ?_⟩
  · by_cases ej : j = ((cur + 1) % 10)
    · subst ej
      obtain ⟨⟨b1, fz, b2, b3⟩, -⟩ := c'
      exact ⟨_, _, _, fz, b1, b2, by rw [b3 0 w'.1, hr']⟩
    · obtain ⟨n2, pc2, dr2, fz, d1, d2, d3⟩ := c14 j hj
      obtain ⟨e1, e2⟩ := old j hj ej n2 pc2 dr2 fz d1 d2
      exact ⟨n2, pc2, dr2, fz, e1, e2, d3⟩
  · obtain ⟨-, -, ad, as, ⟨⟨d3, fz, d4, d5⟩, d6, d7⟩, d8⟩ := c16 i hi
    obtain ⟨e1, e2⟩ := old ((cur + 10 - i) % 10) (Nat.mod_lt _ (by omega)) (by omega) _ _ _ fz d3 d4
    exact ⟨ad, as, ⟨⟨e1, fz, e2, d5⟩, fun j hj => (d6 j hj).pv gp, d7⟩, d8⟩
  · obtain ⟨f9, hf9⟩ : ∃ f9, h (bks) = some f9 := ⟨_, c2⟩
    have hbv : bks ≠ bv ((cur + 1) % 10) := fun z => by
      rw [z, r2] at c2
      exact absurd c2 (by simp)
    rw [g _ _ c2 (by simp [kd9]) (by simp [kd9]) bks1 hbv, c2]
theorem CI.chg {G : gG} {h h' : gH} {x buf rd bks oq rw orw root : Nat} {bk bv t : Nat → Nat} {bl : Nat} {off : Int32} {cur und k : Nat} {Ds : Nat → Dt} {D' : Dt} {ad' : Nat → Nat} {as' : Nat → List Nat} {bl' : Nat} {off' : Int32} (c : CI G h x buf rd bks oq rw orw root bk bv t bl off cur und k Ds) (f : gfr [x, rd, bk ((cur + 1) % 10), bv ((cur + 1) % 10)] h h') (hrd : rdI h' rd) (w' : wfD D') (c' : clD G h' (bk ((cur + 1) % 10)) (bv ((cur + 1) % 10)) D' ad' as') (hr' : ad' 0 = root) (hX' : isX6 G h' x buf rd bks oq rw orw bl' off' ((cur + 1) % 10) (min 8 (und + 1)) bk) (hbl : bl' ≤ bl) (hd' : D'.2.2.1 ≤ k + 1) : CI G h' x buf rd bks oq rw orw root bk bv t bl' off' ((cur + 1) % 10) (min 8 (und + 1)) (k + 1) (fun i => if i = 0 then D' else Ds (i - 1)) := by
  obtain ⟨s1, s2, s3, s4, s5, s6⟩ := c.step f w' c' hr'
  obtain ⟨f1, t1, t2⟩ := s1
  obtain ⟨-, ⟨c4, c4u, c4b⟩, -, -, -, c12, -, -, cij, c16⟩ := c
  refine ⟨hX', ⟨Nat.mod_lt _ (by omega), by omega, by omega⟩, ⟨f1, t1, fun j hj => t2 j (by omega)⟩, hrd, s2, c12, s3, s4, cij, fun i hi => ?_⟩
  by_cases ei : i = 0
  · subst ei
    rw [show (((cur + 1) % 10) + 10 - 0) % 10 = ((cur + 1) % 10) by omega]
    exact ⟨w', hd', ad', as', c', hr'⟩
  · simp only [if_neg ei]
    rw [show (((cur + 1) % 10) + 10 - i) % 10 = (cur + 10 - (i - 1)) % 10 by omega]
    have := c16 (i - 1) (by omega)
    exact ⟨this.1, Nat.le_succ_of_le this.2.1, s5 (i - 1) (by omega)⟩
theorem CI.lde {G : gG} {h h' : gH} {x buf rd bks oq rw orw root : Nat} {bk bv t : Nat → Nat} {bl : Nat} {off : Int32} {cur und k : Nat} {Ds : Nat → Dt} {D' : Dt} {ad' : Nat → Nat} {as' : Nat → List Nat} {off' : Int32} (c : CI G h x buf rd bks oq rw orw root bk bv t bl off cur und k Ds) (f : gfr [x, rd, bk ((cur + 1) % 10), bv ((cur + 1) % 10)] h h') (hrd : rdI h' rd) (w' : wfD D') (c' : clD G h' (bk ((cur + 1) % 10)) (bv ((cur + 1) % 10)) D' ad' as') (hr' : ad' 0 = root) (hX' : isX6 G h' x buf rd bks oq rw orw 0 off' cur und bk) : CI G h' x buf rd bks oq rw orw root bk bv t 0 off' cur und (k + 1) Ds := by
  obtain ⟨s1, s2, s3, s4, s5, s6⟩ := c.step f w' c' hr'
  obtain ⟨f1, t1, t2⟩ := s1
  obtain ⟨-, ⟨c4, c4u, c4b⟩, -, -, -, c12, -, -, cij, c16⟩ := c
  exact ⟨hX', ⟨c4, c4u, by omega⟩, ⟨f1, t1, fun j hj => absurd hj (Nat.not_lt_zero j)⟩, hrd, s2, c12, s3, s4, cij, fun i hi => ⟨(c16 i hi).1, Nat.le_succ_of_le (c16 i hi).2.1, s5 i hi⟩⟩
/-- only the object and what of kind B stands new: buf -/
theorem CI.obj {G : gG} {h h' : gH} {x buf rd bks oq rw orw root : Nat} {bk bv t : Nat → Nat} {bl : Nat} {off : Int32} {cur und k : Nat} {Ds : Nat → Dt} {bl' : Nat} {off' : Int32} {t' : Nat → Nat} {fB : Nat → Int32} (c : CI G h x buf rd bks oq rw orw root bk bv t bl off cur und k Ds) (f : gfr [x, buf] h h') (hX' : isX6 G h' x buf rd bks oq rw orw bl' off' cur und bk) (hb' : h' buf = some (oB G 500 fB)) (hft : ∀ j, j < bl' → fB j = sb_b (t' j) ∧ t' j < 256) (hbl : bl' ≤ 500) : CI G h' x buf rd bks oq rw orw root bk bv t' bl' off' cur und (k + 1) Ds := by
  obtain ⟨⟨c1, fb, c2, c3⟩, ⟨c4, c4u, c4b⟩, ⟨f1, c5, c6⟩, ⟨o9, e9, l9, tx, bk9, at9, st9, kd9_, nu9, may9, c7, c8⟩, ⟨⟨f2, c9⟩, ⟨f3, c10⟩, a, b, d, e, c11⟩, c12, c13, c14, c15, c16⟩ := c
  have g : ∀ (a9 : Nat) (e9 : va_E), h a9 = some e9 → kd9 e9 ≠ 6 → kd9 e9 ≠ 600 → h' a9 = some e9 := fun a9 e9 ha h1 h2 => f _ _ (gnc (ne9 ha c1 (by simpa [kd9] using h1)) (gnc (ne9 ha c5 (by simpa [kd9] using h2)) gn0)) ha
  have gp : gpv h h' := fun a9 ci fs hc ha => g _ _ ha (by show ci ≠ 6; omega) (by show ci ≠ 600; omega)
  refine ⟨hX', ⟨c4, c4u, hbl⟩, ⟨fB, hb', hft⟩, ⟨o9, e9, l9, tx, bk9, at9, st9, kd9_, nu9, may9, c7, g _ _ c8 (by simp [kd9]) (by simp [kd9])⟩, ⟨⟨f2, g _ _ c9 (by simp [kd9]) (by simp [kd9])⟩, ⟨f3, g _ _ c10 (by simp [kd9]) (by simp [kd9])⟩, a, b, d, e, g _ _ c11 (by simp [kd9]) (by simp [kd9])⟩, c12, c13.pv gp, fun j hj => ?_, c15, fun i hi => ?_⟩
  · obtain ⟨n2, pc2, dr2, f, d1, d2, d3⟩ := c14 j hj
    exact ⟨n2, pc2, dr2, f, g _ _ d1 (by simp [kd9]) (by simp [kd9]), g _ _ d2 (by simp [kd9]) (by simp [kd9]), d3⟩
  · obtain ⟨d1, d2, ad, as, ⟨⟨d3, f, d4, d5⟩, d6, d7⟩, d8⟩ := c16 i hi
    exact ⟨d1, Nat.le_succ_of_le d2, ad, as, ⟨⟨g _ _ d3 (by simp [kd9]) (by simp [kd9]), f, g _ _ d4 (by simp [kd9]) (by simp [kd9]), d5⟩, fun j hj => (d6 j hj).pv gp, d7⟩, d8⟩
theorem CI.undo {G : gG} {h h' : gH} {x buf rd bks oq rw orw root : Nat} {bk bv t : Nat → Nat} {bl : Nat} {off : Int32} {cur und k : Nat} {Ds : Nat → Dt} (c : CI G h x buf rd bks oq rw orw root bk bv t bl off cur und k Ds) (hu : 0 < und) (f : gfr [x] h h') (hX' : isX6 G h' x buf rd bks oq rw orw bl off ((cur + 9) % 10) (und - 1) bk) : CI G h' x buf rd bks oq rw orw root bk bv t bl off ((cur + 9) % 10) (und - 1) (k + 1) (fun i => Ds (i + 1)) := by
  obtain ⟨⟨c1, fb, c2, c3⟩, ⟨c4, c4u, c4b⟩, ⟨f1, c5, c6⟩, ⟨o9, e9, l9, tx, bk9, at9, st9, kd9_, nu9, may9, c7, c8⟩, ⟨⟨f2, c9⟩, ⟨f3, c10⟩, a, b, d, e, c11⟩, c12, c13, c14, c15, c16⟩ := c
  have g : ∀ (a9 : Nat) (e9 : va_E), h a9 = some e9 → kd9 e9 ≠ 6 → h' a9 = some e9 := fun a9 e9 ha h1 => f _ _ (gnc (ne9 ha c1 (by simpa [kd9] using h1)) gn0) ha
  have gp : gpv h h' := fun a9 ci fs hc ha => g _ _ ha (by show ci ≠ 6; omega)
  refine ⟨hX', ⟨Nat.mod_lt _ (by omega), by omega, c4b⟩, ⟨f1, g _ _ c5 (by simp [kd9]), c6⟩, ⟨o9, e9, l9, tx, bk9, at9, st9, kd9_, nu9, may9, c7, g _ _ c8 (by simp [kd9])⟩, ⟨⟨f2, g _ _ c9 (by simp [kd9])⟩, ⟨f3, g _ _ c10 (by simp [kd9])⟩, a, b, d, e, g _ _ c11 (by simp [kd9])⟩, c12, c13.pv gp, fun j hj => ?_, c15, fun i hi => ?_⟩
  · obtain ⟨n2, pc2, dr2, f, d1, d2, d3⟩ := c14 j hj
    exact ⟨n2, pc2, dr2, f, g _ _ d1 (by simp [kd9]), g _ _ d2 (by simp [kd9]), d3⟩
  · obtain ⟨d1, d2, ad, as, ⟨⟨d3, f, d4, d5⟩, d6, d7⟩, d8⟩ := c16 (i + 1) (by omega)
    rw [show ((cur + 9) % 10 + 10 - i) % 10 = (cur + 10 - (i + 1)) % 10 by omega]
    exact ⟨d1, Nat.le_succ_of_le d2, ad, as, ⟨⟨g _ _ d3 (by simp [kd9]), f, g _ _ d4 (by simp [kd9]), d5⟩, fun j hj => (d6 j hj).pv gp, d7⟩, d8⟩
/-- the reference's part of a step: its slots -/
theorem sl_chg {R R2 : Nat → Int32} {now und : Nat} {Ds : Nat → Dt} {D' : Dt} (hnow : now < 9) (w : ∀ i, i ≤ und → wfD (Ds i)) (hs : ∀ i, i ≤ und → slD R (330 * ((now + 9 - i) % 9)) (Ds i)) (hN : slD R2 (330 * ((now + 1) % 9)) D') (ho : (∀ q, (q < 330 * ((now + 1) % 9) ∨ 330 * ((now + 1) % 9) + 330 ≤ q) → R2 q = R q)) : ∀ i, i ≤ (min 8 (und + 1)) → slD R2 (330 * ((((now + 1) % 9) + 9 - i) % 9)) ((fun i => if i = 0 then D' else Ds (i - 1)) i) := fun i hi => by
  by_cases ei : i = 0
  · subst ei
    rw [show (((now + 1) % 9) + 9 - 0) % 9 = ((now + 1) % 9) by omega]
    simp only [if_pos]
    exact hN
  · simp only [if_neg ei]
    rw [show (((now + 1) % 9) + 9 - i) % 9 = (now + 9 - (i - 1)) % 9 by omega]
    exact slD.copy (w (i - 1) (by omega)) (hs (i - 1) (by omega)) (fun q hq => ho _ (by omega))
theorem sl_undo {R : Nat → Int32} {now und : Nat} {Ds : Nat → Dt} (hnow : now < 9) (hu : 0 < und) (hu8 : und ≤ 8) (hs : ∀ i, i ≤ und → slD R (330 * ((now + 9 - i) % 9)) (Ds i)) : ∀ i, i ≤ und - 1 → slD R (330 * (((now + 8) % 9 + 9 - i) % 9)) ((fun i => Ds (i + 1)) i) := fun i hi => by
  have := hs (i + 1) (by omega)
  rw [show ((now + 8) % 9 + 9 - i) % 9 = (now + 9 - (i + 1)) % 9 by omega]
  exact this
theorem sl_eq {R R2 : Nat → Int32} {now und : Nat} {Ds : Nat → Dt} (w : ∀ i, i ≤ und → wfD (Ds i)) (hs : ∀ i, i ≤ und → slD R (330 * ((now + 9 - i) % 9)) (Ds i)) (ho : ∀ q, R2 q = R q) : ∀ i, i ≤ und → slD R2 (330 * ((now + 9 - i) % 9)) (Ds i) := fun i hi => slD.copy (w i hi) (hs i hi) (fun q _ => ho _)
/-- the class's data behind a push, a pop, a drop, a rule -/
theorem cl_add {G : gG} {h h' : gH} {b va b2 va2 w i : Nat} {y : Int32} {D : Dt} {ad : Nat → Nat} {as : Nat → List Nat} (w9 : wfD D) (c : clD G h b va D ad as) (hi : i < D.1) (hw : h w = none) (hB : isBk G h' b2 va2 (D.1 + 1) D.2.1 D.2.2.1 (va_up ad D.1 w)) (hV : isVx h' w (some (ad i)) ((y, D.2.1) :: D.2.2.2.2 i)) (fr : gpv h h') : clD G h' b2 va2 (dAdd D i y) (va_up ad D.1 w) (va_up as D.1 (ad i :: as i)) := by
  obtain ⟨c1, c2, c3, c4, c5⟩ := c
  have hne : ∀ j, j < D.1 → ad j ≠ w := fun j hj e => by
    obtain ⟨fs, hf⟩ := (c2 j hj).v.kindE
    rw [e, hw] at hf
    cases hf
  have h0 : 0 < D.1 := by omega
  refine ⟨hB, fun j hj => ?_, ?_, fun j h1 hj => ?_, fun j k hj hk => ?_⟩
  · change j < D.1 + 1 at hj
    show isVc h' (va_up D.2.2.2.2 D.1 _ j) (va_up ad D.1 w j :: va_up as D.1 _ j)
    unfold va_up
    by_cases e : j = D.1
    · subst e
      rw [if_pos rfl, if_pos rfl, if_pos rfl]
      obtain ⟨t, hV⟩ := hV
      exact ⟨t, hV, (c2 i hi).pv fr⟩
    · rw [if_neg e, if_neg e, if_neg e]
      exact (c2 j (by omega)).pv fr
  · show va_up as D.1 _ 0 = []
    unfold va_up
    rw [if_neg (by omega)]
    exact c3
  · change j < D.1 + 1 at hj
    show va_up as D.1 _ j = va_up ad D.1 w (va_up D.2.2.2.1 D.1 i j) :: va_up as D.1 _ (va_up D.2.2.2.1 D.1 i j)
    by_cases e : j = D.1
    · subst e
      have e1 : va_up D.2.2.2.1 D.1 i D.1 = i := by unfold va_up; rw [if_pos rfl]
      rw [e1]
      unfold va_up
      rw [if_pos rfl, if_neg (by omega), if_neg (by omega)]
    · have e1 : va_up D.2.2.2.1 D.1 i j = D.2.2.2.1 j := by unfold va_up; rw [if_neg e]
      have e2 : D.2.2.2.1 j ≠ D.1 := fun z => by
        have := (w9.2.2.2.2.2 j h1 (by omega)).1
        omega
      rw [e1]
      unfold va_up
      rw [if_neg e, if_neg e2, if_neg e2]
      exact c4 j h1 (by omega)
  · change j < D.1 + 1 at hj
    change k < D.1 + 1 at hk
    show va_up ad D.1 w j = va_up ad D.1 w k → j = k
    unfold va_up
    by_cases e1 : j = D.1
    · by_cases e2 : k = D.1
      · intro _; omega
      · rw [if_pos e1, if_neg e2]
        exact fun z => absurd z.symm (hne k (by omega))
    · by_cases e2 : k = D.1
      · rw [if_neg e1, if_pos e2]
        exact fun z => absurd z (hne j (by omega))
      · rw [if_neg e1, if_neg e2]
        exact c5 j k (by omega) (by omega)
theorem cl_pace {G : gG} {h h' : gH} {b va b2 va2 k : Nat} {D : Dt} {ad : Nat → Nat} {as : Nat → List Nat} (c : clD G h b va D ad as) (hB : isBk G h' b2 va2 D.1 k D.2.2.1 ad) (fr : gpv h h') : clD G h' b2 va2 (dPace D k) ad as := ⟨hB, fun i hi => (c.2.1 i hi).pv fr, c.2.2.1, c.2.2.2.1, c.2.2.2.2⟩
theorem cl_drop {G : gG} {h h' : gH} {b va b2 va2 j : Nat} {D : Dt} {ad : Nat → Nat} {as : Nat → List Nat} (w9 : wfD D) (c : clD G h b va D ad as) (h0 : 0 < j) (hj : j < D.1) (hc : chD D j = 0) (hB : isBk G h' b2 va2 (D.1 - 1) D.2.1 (D.2.2.1 + 1) (fun i => if i < j then ad i else ad (i + 1))) (fr : gpv h h') : clD G h' b2 va2 (dDrop D j) (fun i => if i < j then ad i else ad (i + 1)) (fun i => as (skp j i)) := by
  have ea : ∀ i, (fun i => if i < j then ad i else ad (i + 1)) i = ad (skp j i) := fun i => by
    show (if i < j then ad i else ad (i + 1)) = ad (skp j i)
    unfold skp
    split <;> rfl
  have hs : ∀ i, i < D.1 - 1 → skp j i < D.1 := fun i hi => by unfold skp; split <;> omega
  have hsi : ∀ a b, skp j a = skp j b → a = b := fun a b e => by
    unfold skp at e
    split at e <;> split at e <;> omega
  refine ⟨hB, fun i hi => ?_, ?_, fun i h1 hi => ?_, fun a b ha hb e => ?_⟩
  · change i < D.1 - 1 at hi
    have := (c.2.1 (skp j i) (hs i hi)).pv fr
    rw [ea]
    exact this
  · show as (skp j 0) = []
    rw [show skp j 0 = 0 by unfold skp; rw [if_pos h0]]
    exact c.2.2.1
  · change i < D.1 - 1 at hi
    have hne : 0 < skp j i := by unfold skp; split <;> omega
    have hp : D.2.2.2.1 (skp j i) ≠ j := fun z => chD_no hc (hs i hi) (by unfold paD asD; rw [if_neg (by omega), z]; rfl)
    have hk : skp j (if D.2.2.2.1 (skp j i) > j then D.2.2.2.1 (skp j i) - 1 else D.2.2.2.1 (skp j i)) = D.2.2.2.1 (skp j i) := by
      generalize D.2.2.2.1 (skp j i) = p at *
      by_cases hpj : p > j
      · rw [if_pos hpj]
        unfold skp
        rw [if_neg (by omega)]
        omega
      · rw [if_neg hpj]
        unfold skp
        rw [if_pos (by omega)]
    show as (skp j i) = _ :: as (skp j (if D.2.2.2.1 (skp j i) > j then D.2.2.2.1 (skp j i) - 1 else D.2.2.2.1 (skp j i)))
    rw [ea, hk, c.2.2.2.1 (skp j i) hne (hs i hi)]
    show _ = ad (skp j (if D.2.2.2.1 (skp j i) > j then D.2.2.2.1 (skp j i) - 1 else D.2.2.2.1 (skp j i))) :: _
    rw [hk]
  · change a < D.1 - 1 at ha
    change b < D.1 - 1 at hb
    rw [ea, ea] at e
    exact hsi a b (c.2.2.2.2 _ _ (hs a ha) (hs b hb) e)
