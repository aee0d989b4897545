/-! THE DATA that class and reference share: how many versions, pace, dropped ones, parents, ways -/
abbrev Dt : Type := Nat × Nat × Nat × (Nat → Nat) × (Nat → List mO)
def D0 : Dt := (1, 2, 0, fun _ => 0, fun _ => [])
def dAdd (D : Dt) (i : Nat) (x : Int32) : Dt := (D.1 + 1, D.2.1, D.2.2.1, va_up D.2.2.2.1 D.1 i, va_up D.2.2.2.2 D.1 ((x, D.2.1) :: D.2.2.2.2 i))
def dPace (D : Dt) (k : Nat) : Dt := (D.1, k, D.2.2.1, D.2.2.2.1, D.2.2.2.2)
def wfD (D : Dt) : Prop := 1 ≤ D.1 ∧ D.1 ≤ 64 ∧ 2 ≤ D.2.1 ∧ D.2.1 ≤ 4 ∧ D.2.2.2.2 0 = [] ∧ ∀ i, 0 < i → i < D.1 → D.2.2.2.1 i < i ∧ (∃ o, D.2.2.2.2 i = o :: D.2.2.2.2 (D.2.2.2.1 i)) ∧ wOk (D.2.2.2.2 i)
theorem wfD.d0 : wfD D0 := ⟨Nat.le_refl _, by decide, by decide, by decide, rfl, fun i h1 h2 => absurd h2 (by show ¬ i < 1; omega)⟩
theorem wfD.len {D : Dt} (w : wfD D) : ∀ (k i : Nat), i ≤ k → i < D.1 → (D.2.2.2.2 i).length ≤ i ∧ wOk (D.2.2.2.2 i)
  | 0, i, h1, h2 => by
    have e : i = 0 := by omega
    subst e
    rw [w.2.2.2.2.1]
    exact ⟨Nat.le_refl _, trivial⟩
  | k + 1, i, h1, h2 => by
    by_cases h0 : i = 0
    · subst h0
      rw [w.2.2.2.2.1]
      exact ⟨Nat.le_refl _, trivial⟩
    · obtain ⟨a, ⟨o, e⟩, b⟩ := w.2.2.2.2.2 i (by omega) h2
      have := w.len k (D.2.2.2.1 i) (by omega) (by omega)
      refine ⟨?_, b⟩
      rw [e, List.length_cons]
      omega
theorem wfD.os {D : Dt} (w : wfD D) {i : Nat} (h : i < D.1) : wOk (D.2.2.2.2 i) ∧ (D.2.2.2.2 i).length < 64 := by
  have := w.len i i (Nat.le_refl _) h
  have h2 := w.2.1
  exact ⟨this.2, by omega⟩
theorem wfD.add {D : Dt} (w : wfD D) {i : Nat} {x : Int32} (hn : D.1 < 64) (hi : i < D.1) (hx : wOk ((x, D.2.1) :: D.2.2.2.2 i)) : wfD (dAdd D i x) := by
  obtain ⟨w1, w2, w3, w4, w5, w6⟩ := w
  refine ⟨by show 1 ≤ D.1 + 1; omega, by show D.1 + 1 ≤ 64; omega, w3, w4, ?_, fun j h1 h2 => ?_⟩
  · show va_up D.2.2.2.2 D.1 _ 0 = []
    unfold va_up
    rw [if_neg (by omega)]
    exact w5
  · change j < D.1 + 1 at h2
    show va_up D.2.2.2.1 D.1 i j < j ∧ (∃ o, va_up D.2.2.2.2 D.1 _ j = o :: va_up D.2.2.2.2 D.1 _ (va_up D.2.2.2.1 D.1 i j)) ∧ wOk (va_up D.2.2.2.2 D.1 _ j)
    unfold va_up
    by_cases hj : j = D.1
    · subst hj
      rw [if_pos rfl, if_pos rfl, if_neg (by omega)]
      exact ⟨hi, ⟨_, rfl⟩, hx⟩
    · obtain ⟨a, b, c⟩ := w6 j h1 (by omega)
      rw [if_neg hj, if_neg hj, if_neg (by omega)]
      exact ⟨a, b, c⟩
theorem wfD.pace {D : Dt} (w : wfD D) {k : Nat} (h1 : 2 ≤ k) (h2 : k ≤ 4) : wfD (dPace D k) := ⟨w.1, w.2.1, h1, h2, w.2.2.2.2⟩
/-- the class's book tells the data -/
def clD (G : gG) (h : gH) (b va : Nat) (D : Dt) (ad : Nat → Nat) (as : Nat → List Nat) : Prop := isBk G h b va D.1 D.2.1 D.2.2.1 ad ∧ (∀ i, i < D.1 → isVc h (D.2.2.2.2 i) (ad i :: as i)) ∧ as 0 = [] ∧ (∀ i, 0 < i → i < D.1 → as i = ad (D.2.2.2.1 i) :: as (D.2.2.2.1 i)) ∧ ∀ i j, i < D.1 → j < D.1 → ad i = ad j → i = j
theorem clD.dat {G : gG} {h : gH} {b va : Nat} {D : Dt} {ad : Nat → Nat} {as : Nat → List Nat} (c : clD G h b va D ad as) (w : wfD D) : isDat h D.1 ad as D.2.2.2.2 := fun i hi => ⟨c.2.1 i hi, w.os hi⟩
theorem clD.kind {G : gG} {h : gH} {b va : Nat} {D : Dt} {ad : Nat → Nat} {as : Nat → List Nat} (c : clD G h b va D ad as) {i : Nat} (hi : i < D.1) : ∃ fs, h (ad i) = some (.inr (5, fs)) := (c.2.1 i hi).v.kindE
theorem gfr.pvB {G : gG} {h h' : gH} {b va : Nat} {bfs : List Value} {f : Nat → Option Nat} (hb : h b = some (.inr (0, bfs))) (hva : h va = some (oV G 64 f)) (fr : gfr [b, va] h h') : gpv h h' := gfr.pv fr (by
  intro a9 m9 ci9 fs9 c9 z9
  simp only [List.mem_cons, List.not_mem_nil, or_false] at m9
  rcases m9 with rfl | rfl
  · rw [hb] at z9; cases z9; omega
  · rw [hva] at z9; cases z9)
theorem clD.add {G : gG} {h h' : gH} {b va w i : Nat} {x : Int32} {D : Dt} {ad : Nat → Nat} {as : Nat → List Nat} (w9 : wfD D) (c : clD G h b va D ad as) (hi : i < D.1) (hw : h w = none) (hB : isBk G h' b va (D.1 + 1) D.2.1 D.2.2.1 (va_up ad D.1 w)) (hV : isVx h' w (some (ad i)) ((x, D.2.1) :: D.2.2.2.2 i)) (fr : gpv h h') : clD G h' b va (dAdd D i x) (va_up ad D.1 w) (va_up as D.1 (ad i :: as i)) := by
  obtain ⟨c1, c2, c3, c4, c5⟩ := c
  have hne : ∀ j, j < D.1 → ad j ≠ w := fun j hj e => by
    obtain ⟨fs, hf⟩ := (c2 j hj).v.kindE
    rw [e, hw] at hf
    cases hf
  have h0 : 0 < D.1 := by omega
  refine ⟨hB, fun j hj => ?_, ?_, fun j h1 hj => ?_, fun j k hj hk => ?_⟩
  · change j < D.1 + 1 at hj
    show isVc h' (va_up D.2.2.2.2 D.1 _ j) (va_up ad D.1 w j :: va_up as D.1 _ j)
    unfold va_up
    by_cases e : j = D.1
    · subst e
      rw [if_pos rfl, if_pos rfl, if_pos rfl]
      obtain ⟨t, hV⟩ := hV
      exact ⟨t, hV, (c2 i hi).pv fr⟩
    · rw [if_neg e, if_neg e, if_neg e]
      exact (c2 j (by omega)).pv fr
  · show va_up as D.1 _ 0 = []
    unfold va_up
    rw [if_neg (by omega)]
    exact c3
  · change j < D.1 + 1 at hj
    show va_up as D.1 _ j = va_up ad D.1 w (va_up D.2.2.2.1 D.1 i j) :: va_up as D.1 _ (va_up D.2.2.2.1 D.1 i j)
    by_cases e : j = D.1
    · subst e
      have e1 : va_up D.2.2.2.1 D.1 i D.1 = i := by unfold va_up; rw [if_pos rfl]
      rw [e1]
      unfold va_up
      rw [if_pos rfl, if_neg (by omega), if_neg (by omega)]
    · have e1 : va_up D.2.2.2.1 D.1 i j = D.2.2.2.1 j := by unfold va_up; rw [if_neg e]
      have e2 : D.2.2.2.1 j ≠ D.1 := fun z => by
        have := (w9.2.2.2.2.2 j h1 (by omega)).1
        omega
      rw [e1]
      unfold va_up
      rw [if_neg e, if_neg e2, if_neg e2]
      exact c4 j h1 (by omega)
  · change j < D.1 + 1 at hj
    change k < D.1 + 1 at hk
    show va_up ad D.1 w j = va_up ad D.1 w k → j = k
    unfold va_up
    by_cases e1 : j = D.1
    · by_cases e2 : k = D.1
      · intro _; omega
      · rw [if_pos e1, if_neg e2]
        exact fun z => absurd z.symm (hne k (by omega))
    · by_cases e2 : k = D.1
      · rw [if_neg e1, if_pos e2]
        exact fun z => absurd z (hne j (by omega))
      · rw [if_neg e1, if_neg e2]
        exact c5 j k (by omega) (by omega)
/-! WHAT A TEXT MAKES -/
def vl (t : Nat → Nat) (len s : Nat) : Nat := vD t (len - s) s 0
def nxT (t : Nat → Nat) (len s : Nat) : Nat := sk t len (enT t len s)
/-- an error: code, offset, how many versions there are; or the next token and the data -/
abbrev PR : Type := (Int32 × Nat × Nat) ⊕ (Nat × Dt)
def prN (r : PR) : Nat := match r with
  | .inl e => e.2.2
  | .inr q => q.2.1
def pNum (t : Nat → Nat) (len s lo hi n : Nat) : Option (Int32 × Nat × Nat) := if kdT t len s ≠ 2 then some (-2, s, n) else if lo ≤ vl t len s ∧ vl t len s ≤ hi then none else some (-3, s, n)
def pPs (t : Nat → Nat) (len : Nat) : Nat → Bool → Nat → Nat → Dt → PR
  | 0, _, _, s, D => .inr (s, D)
  | m + 1, fs, v, s, D => if kdT t len s ≠ 2 then (if fs = true then .inl (-2, s, D.1) else .inr (s, D)) else if 99 < vl t len s then .inl (-3, s, D.1) else if 64 ≤ D.1 then .inl (-4, s, D.1) else pPs t len m false D.1 (nxT t len s) (dAdd D v (nI (vl t len s)))
def pPush (t : Nat → Nat) (len s0 : Nat) (D : Dt) : PR :=
  match pNum t len (nxT t len s0) 0 (D.1 - 1) D.1 with
  | some e => .inl e
  | none => pPs t len 64 true (vl t len (nxT t len s0)) (nxT t len (nxT t len s0)) D
def dPops : Nat → Nat → Dt → Dt
  | 0, _, D => D
  | k + 1, v, D => dPops k D.1 (dAdd D v (-1))
def pPop (t : Nat → Nat) (len s0 : Nat) (D : Dt) : PR :=
  match pNum t len (nxT t len s0) 0 (D.1 - 1) D.1 with
  | some e => .inl e
  | none => match pNum t len (nxT t len (nxT t len s0)) 1 64 D.1 with
    | some e => .inl e
    | none => if 64 < D.1 + vl t len (nxT t len (nxT t len s0)) then .inl (-4, nxT t len (nxT t len s0), D.1) else if (wVals (D.2.2.2.2 (vl t len (nxT t len s0)))).length < vl t len (nxT t len (nxT t len s0)) then .inl (-5, nxT t len (nxT t len s0), D.1) else .inr (nxT t len (nxT t len (nxT t len s0)), dPops (vl t len (nxT t len (nxT t len s0))) (vl t len (nxT t len s0)) D)
def pPace (t : Nat → Nat) (len s0 : Nat) (D : Dt) : PR :=
  match pNum t len (nxT t len s0) 2 4 D.1 with
  | some e => .inl e
  | none => .inr (nxT t len (nxT t len s0), dPace D (vl t len (nxT t len s0)))
def pSt (t : Nat → Nat) (len : Nat) (may : Bool) (s : Nat) (D : Dt) : PR := if kdT t len s = 5 then pPush t len s D else if kdT t len s = 6 then pPop t len s D else if kdT t len s = 7 ∧ may = true then pPace t len s D else .inl (-2, s, D.1)
def pMain (t : Nat → Nat) (len : Nat) : Nat → Bool → Nat → Dt → PR
  | 0, _, s, D => .inr (s, D)
  | m + 1, may, s, D => if kdT t len s = 0 then .inr (s, D) else match pSt t len may s D with
    | .inl e => .inl e
    | .inr (s1, D1) => if kdT t len s1 = 3 then pMain t len m false (nxT t len s1) D1 else .inl (-2, s1, D1.1)
def pAll (t : Nat → Nat) (len : Nat) : PR := if kdT t len (sk t len 0) ≠ 4 then .inl (-2, sk t len 0, 1) else if kdT t len (nxT t len (sk t len 0)) ≠ 3 then .inl (-2, nxT t len (sk t len 0), 1) else pMain t len len true (nxT t len (nxT t len (sk t len 0))) D0
