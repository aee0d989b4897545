/-! WHAT HOLDS BETWEEN TWO CALLS -/
def kd9 (e : va_E) : Nat := match e with
  | .inr (ci, _) => ci
  | .inl (_, n, .inl _) => 100 + n
  | .inl (_, _, .inr (.inl _)) => 10
  | .inl (_, _, .inr (.inr _)) => 11
theorem ne9 {h : gH} {a b : Nat} {ea eb : va_E} (ha : h a = some ea) (hb : h b = some eb) (hk : kd9 ea ≠ kd9 eb) : a ≠ b := fun e => by
  subst e
  rw [ha] at hb
  cases hb
  exact hk rfl
/-- the class's side -/
def CI (G : gG) (h : gH) (x buf rd bks oq rw orw root : Nat) (bk bv : Nat → Nat) (t : Nat → Nat) (bl : Nat) (off : Int32) (cur und k : Nat) (Ds : Nat → Dt) : Prop :=
  isX6 G h x buf rd bks oq rw orw bl off cur und bk ∧ (cur < 10 ∧ und ≤ 8 ∧ bl ≤ 500) ∧ (∃ f, h buf = some (oB G 500 f) ∧ ∀ j, j < bl → f j = sb_b (t j) ∧ t j < 256) ∧ rdI h rd ∧ scr G h rw orw oq ∧ rw ≠ orw ∧ isVc h [] [root] ∧
  (∀ j, j < 10 → ∃ (n2 pc2 dr2 : Nat) (f : Nat → Option Nat), h (bk j) = some (.inr (0, [.ref (bv j), .int (nI n2), .int (nI pc2), .int (nI dr2)])) ∧ h (bv j) = some (oV G 64 f) ∧ f 0 = some root) ∧ ((∀ i j, i < 10 → j < 10 → bk i = bk j → i = j) ∧ ∀ i j, i < 10 → j < 10 → bv i = bv j → i = j) ∧
  ∀ i, i ≤ und → wfD (Ds i) ∧ (Ds i).2.2.1 ≤ k ∧ ∃ (ad : Nat → Nat) (as : Nat → List Nat), clD G h (bk ((cur + 10 - i) % 10)) (bv ((cur + 10 - i) % 10)) (Ds i) ad as ∧ ad 0 = root
/-- the reference's side -/
def MI (G : gG) (h : gH) (m rows asd vals many way told oth lst text : Nat) (t : Nat → Nat) (bl : Nat) (off : Int32) (now und : Nat) (Ds : Nat → Dt) : Prop := ∃ (th len spot fa num frm may : Int32) (R A T : Nat → Int32), mS G h m rows asd vals many way told oth lst text th now (nI und) (nI bl) len spot fa off num frm may R ∧ now < 9 ∧ h asd = some (oI G 330 A) ∧ h text = some (oI G 500 T) ∧ (∀ j, j < bl → T j = nI (t j)) ∧ ∀ i, i ≤ und → slD R (330 * ((now + 9 - i) % 9)) (Ds i)
def AP (buf rw orw way told oth text : Nat) : Prop := rw ≠ way ∧ rw ≠ told ∧ rw ≠ oth ∧ orw ≠ way ∧ orw ≠ told ∧ orw ≠ oth ∧ buf ≠ text
/-- what stands of the kinds that the class makes -/
def gk9 (h h' : gH) : Prop := ∀ (a : Nat) (e : va_E), h a = some e → (kd9 e < 7 ∨ kd9 e = 11) → h' a = some e
theorem gk9.pv {h h' : gH} (g : gk9 h h') : gpv h h' := fun a ci fs hc ha => g a _ ha (.inl (by show ci < 7; omega))
theorem CI.keep {G : gG} {h h' : gH} {x buf rd bks oq rw orw root : Nat} {bk bv t : Nat → Nat} {bl : Nat} {off : Int32} {cur und k : Nat} {Ds : Nat → Dt} (c : CI G h x buf rd bks oq rw orw root bk bv t bl off cur und k Ds) (g : gk9 h h') (hb : h' buf = h buf) (hr : h' rw = h rw) (ho : h' orw = h orw) : CI G h' x buf rd bks oq rw orw root bk bv t bl off cur und k Ds := by
  obtain ⟨⟨c1, fb, c2, c3⟩, c4, ⟨f, c5, c6⟩, ⟨o9, e9, l9, tx, bk9, at9, st9, kd9_, nu9, may9, c7, c8⟩, ⟨⟨f1, c9⟩, ⟨f2, c10⟩, a, b, d, e, c11⟩, c12, c13, c14, c15, c16⟩ := c
  refine ⟨⟨g _ _ c1 (.inl (by simp [kd9])), fb, g _ _ c2 (.inr rfl), c3⟩, c4, ⟨f, hb.trans c5, c6⟩, ⟨o9, e9, l9, tx, bk9, at9, st9, kd9_, nu9, may9, c7, g _ _ c8 (.inl (by simp [kd9]))⟩, ⟨⟨f1, hr.trans c9⟩, ⟨f2, ho.trans c10⟩, a, b, d, e, g _ _ c11 (.inl (by simp [kd9]))⟩, c12, c13.pv g.pv, fun j hj => ?_, c15, fun i hi => ?_⟩
  · obtain ⟨n2, pc2, dr2, f, d1, d2, d3⟩ := c14 j hj
    exact ⟨n2, pc2, dr2, f, g _ _ d1 (.inl (by simp [kd9])), g _ _ d2 (.inr rfl), d3⟩
  · obtain ⟨d1, d2, ad, as, ⟨⟨d3, f, d4, d5⟩, d6, d7⟩, d8⟩ := c16 i hi
    exact ⟨d1, d2, ad, as, ⟨⟨g _ _ d3 (.inl (by simp [kd9])), f, g _ _ d4 (.inr rfl), d5⟩, fun j hj => (d6 j hj).pv g.pv, d7⟩, d8⟩
/-- places that the class does not have -/
def nCl (h : gH) (buf rw orw s : Nat) : Prop := (∃ e, h s = some e ∧ 6 < kd9 e ∧ kd9 e ≠ 11) ∧ s ≠ buf ∧ s ≠ rw ∧ s ≠ orw
theorem gk9.fr {h h' : gH} {buf rw orw : Nat} {S : List Nat} (hS : ∀ s, s ∈ S → nCl h buf rw orw s) (f : gfr S h h') : gk9 h h' := fun a e ha hk => f a e (fun hm => by
  obtain ⟨⟨e2, h2, h3, h4⟩, -⟩ := hS a hm
  rw [ha] at h2
  cases h2
  omega) ha
theorem CI.fr {G : gG} {h h' : gH} {x buf rd bks oq rw orw root : Nat} {bk bv t : Nat → Nat} {bl : Nat} {off : Int32} {cur und k : Nat} {Ds : Nat → Dt} {S : List Nat} (c : CI G h x buf rd bks oq rw orw root bk bv t bl off cur und k Ds) (hS : ∀ s, s ∈ S → nCl h buf rw orw s) (f : gfr S h h') : CI G h' x buf rd bks oq rw orw root bk bv t bl off cur und k Ds := by
  obtain ⟨f1, c5, -⟩ := c.2.2.1
  obtain ⟨⟨f2, c9⟩, ⟨f3, c10⟩, -⟩ := c.2.2.2.2.1
  refine c.keep (gk9.fr hS f) ?_ ?_ ?_
  · rw [c5]; exact f _ _ (fun hm => (hS _ hm).2.1 rfl) c5
  · rw [c9]; exact f _ _ (fun hm => (hS _ hm).2.2.1 rfl) c9
  · rw [c10]; exact f _ _ (fun hm => (hS _ hm).2.2.2 rfl) c10
/-- a query is over -/
theorem CI.q {G : gG} {h h' : gH} {x buf rd bks oq rw orw root : Nat} {bk bv t : Nat → Nat} {bl : Nat} {off : Int32} {cur und k : Nat} {Ds : Nat → Dt} (c : CI G h x buf rd bks oq rw orw root bk bv t bl off cur und k Ds) (hs : scr G h' rw orw oq) (f : gfr [rw, orw, oq] h h') : CI G h' x buf rd bks oq rw orw root bk bv t bl off cur und k Ds := by
  obtain ⟨⟨c1, fb, c2, c3⟩, c4, ⟨f1, c5, c6⟩, ⟨o9, e9, l9, tx, bk9, at9, st9, kd9_, nu9, may9, c7, c8⟩, ⟨⟨f2, c9⟩, ⟨f3, c10⟩, a, b, d, e, c11⟩, c12, c13, c14, c15, c16⟩ := c
  have g : ∀ (a9 : Nat) (e9 : va_E), h a9 = some e9 → kd9 e9 ≠ 164 → kd9 e9 ≠ 2 → h' a9 = some e9 := fun a9 e9 ha h1 h2 => f _ _ (gnc (ne9 ha c9 h1) (gnc (ne9 ha c10 h1) (gnc (ne9 ha c11 h2) gn0))) ha
  have gp : gpv h h' := fun a9 ci fs hc ha => g _ _ ha (by show ci ≠ 164; omega) (by show ci ≠ 2; omega)
  refine ⟨⟨g _ _ c1 (by simp [kd9]) (by simp [kd9]), fb, g _ _ c2 (by simp [kd9]) (by simp [kd9]), c3⟩, c4, ⟨f1, g _ _ c5 (by simp [kd9]) (by simp [kd9]), c6⟩, ⟨o9, e9, l9, tx, bk9, at9, st9, kd9_, nu9, may9, c7, g _ _ c8 (by simp [kd9]) (by simp [kd9])⟩, hs, c12, c13.pv gp, fun j hj => ?_, c15, fun i hi => ?_⟩
  · obtain ⟨n2, pc2, dr2, f, d1, d2, d3⟩ := c14 j hj
    exact ⟨n2, pc2, dr2, f, g _ _ d1 (by simp [kd9]) (by simp [kd9]), g _ _ d2 (by simp [kd9]) (by simp [kd9]), d3⟩
  · obtain ⟨d1, d2, ad, as, ⟨⟨d3, f, d4, d5⟩, d6, d7⟩, d8⟩ := c16 i hi
    exact ⟨d1, d2, ad, as, ⟨⟨g _ _ d3 (by simp [kd9]) (by simp [kd9]), f, g _ _ d4 (by simp [kd9]) (by simp [kd9]), d5⟩, fun j hj => (d6 j hj).pv gp, d7⟩, d8⟩
theorem CI.now {G : gG} {h : gH} {x buf rd bks oq rw orw root : Nat} {bk bv t : Nat → Nat} {bl : Nat} {off : Int32} {cur und k : Nat} {Ds : Nat → Dt} (c : CI G h x buf rd bks oq rw orw root bk bv t bl off cur und k Ds) : wfD (Ds 0) ∧ (Ds 0).2.2.1 ≤ k ∧ ∃ (ad : Nat → Nat) (as : Nat → List Nat), clD G h (bk cur) (bv cur) (Ds 0) ad as ∧ ad 0 = root := by
  have h1 := c.2.1.1
  have h2 := c.2.2.2.2.2.2.2.2.2 0 (Nat.zero_le _)
  rw [show (cur + 10 - 0) % 10 = cur by omega] at h2
  exact h2
theorem CI.more {G : gG} {h : gH} {x buf rd bks oq rw orw root : Nat} {bk bv t : Nat → Nat} {bl : Nat} {off : Int32} {cur und k : Nat} {Ds : Nat → Dt} (c : CI G h x buf rd bks oq rw orw root bk bv t bl off cur und k Ds) : CI G h x buf rd bks oq rw orw root bk bv t bl off cur und (k + 1) Ds := by
  obtain ⟨c1, c2, c3, c4, c5, c6, c7, c8, c9, c10⟩ := c
  exact ⟨c1, c2, c3, c4, c5, c6, c7, c8, c9, fun i hi => ⟨(c10 i hi).1, Nat.le_succ_of_le (c10 i hi).2.1, (c10 i hi).2.2⟩⟩
theorem MI.fr {G : gG} {h h' : gH} {m rows asd vals many way told oth lst text : Nat} {t : Nat → Nat} {bl : Nat} {off : Int32} {now und : Nat} {Ds : Nat → Dt} {S : List Nat} (c : MI G h m rows asd vals many way told oth lst text t bl off now und Ds) (hS : ∀ a, a ∈ [m, rows, asd, vals, many, way, told, oth, lst, text] → a ∉ S) (f : gfr S h h') : MI G h' m rows asd vals many way told oth lst text t bl off now und Ds := by
  obtain ⟨th, len, spot, fa, num, frm, may, R, A, T, ⟨fl, rl, kd, ok, st, wm, hm, hrows, ⟨V, hvals⟩, ⟨M, hmany⟩, ⟨W, hway⟩, ⟨f1, htold⟩, ⟨g, hoth⟩, ⟨ll, hlst⟩, hn⟩, c2, c3, c4, c5⟩ := c
  exact ⟨th, len, spot, fa, num, frm, may, R, A, T, ⟨fl, rl, kd, ok, st, wm, f _ _ (hS _ (by simp)) hm, f _ _ (hS _ (by simp)) hrows, ⟨V, f _ _ (hS _ (by simp)) hvals⟩, ⟨M, f _ _ (hS _ (by simp)) hmany⟩, ⟨W, f _ _ (hS _ (by simp)) hway⟩, ⟨f1, f _ _ (hS _ (by simp)) htold⟩, ⟨g, f _ _ (hS _ (by simp)) hoth⟩, ⟨ll, f _ _ (hS _ (by simp)) hlst⟩, hn⟩, c2, f _ _ (hS _ (by simp)) c3, f _ _ (hS _ (by simp)) c4, c5⟩
/-- the reference's places, by kind -/
theorem MI.kd {G : gG} {h : gH} {m rows asd vals many way told oth lst text : Nat} {t : Nat → Nat} {bl : Nat} {off : Int32} {now und : Nat} {Ds : Nat → Dt} (c : MI G h m rows asd vals many way told oth lst text t bl off now und Ds) : ∀ a, a ∈ [m, rows, asd, vals, many, way, told, oth, lst, text] → ∃ e, h a = some e ∧ 6 < kd9 e ∧ kd9 e ≠ 11 ∧ kd9 e ≠ 10 ∧ (kd9 e = 164 → a = way ∨ a = told ∨ a = oth) ∧ (kd9 e = 600 → a = text) := by
  obtain ⟨th, len, spot, fa, num, frm, may, R, A, T, ⟨fl, rl, kd, ok, st, wm, hm, hrows, ⟨V, hvals⟩, ⟨M, hmany⟩, ⟨W, hway⟩, ⟨f1, htold⟩, ⟨g, hoth⟩, ⟨ll, hlst⟩, hn⟩, c2, c3, c4, c5⟩ := c
  intro a ha
  simp only [List.mem_cons, List.not_mem_nil, or_false] at ha
  rcases ha with rfl | rfl | rfl | rfl | rfl | rfl | rfl | rfl | rfl | rfl
  · exact ⟨_, hm, by show 6 < 7; decide, by show 7 ≠ 11; decide, by show 7 ≠ 10; decide, fun z => absurd (show 7 = 164 from z) (by decide), fun z => absurd (show 7 = 600 from z) (by decide)⟩
  · exact ⟨_, hrows, by show 6 < 100 + 2970; decide, by show 100 + 2970 ≠ 11; decide, by show 100 + 2970 ≠ 10; decide, fun z => absurd (show 100 + 2970 = 164 from z) (by decide), fun z => absurd (show 100 + 2970 = 600 from z) (by decide)⟩
  · exact ⟨_, c3, by show 6 < 100 + 330; decide, by show 100 + 330 ≠ 11; decide, by show 100 + 330 ≠ 10; decide, fun z => absurd (show 100 + 330 = 164 from z) (by decide), fun z => absurd (show 100 + 330 = 600 from z) (by decide)⟩
  · exact ⟨_, hvals, by show 6 < 100 + 384; decide, by show 100 + 384 ≠ 11; decide, by show 100 + 384 ≠ 10; decide, fun z => absurd (show 100 + 384 = 164 from z) (by decide), fun z => absurd (show 100 + 384 = 600 from z) (by decide)⟩
  · exact ⟨_, hmany, by show 6 < 100 + 6; decide, by show 100 + 6 ≠ 11; decide, by show 100 + 6 ≠ 10; decide, fun z => absurd (show 100 + 6 = 164 from z) (by decide), fun z => absurd (show 100 + 6 = 600 from z) (by decide)⟩
  · exact ⟨_, hway, by show 6 < 100 + 64; decide, by show 100 + 64 ≠ 11; decide, by show 100 + 64 ≠ 10; decide, fun _ => .inl rfl, fun z => absurd (show 100 + 64 = 600 from z) (by decide)⟩
  · exact ⟨_, htold, by show 6 < 100 + 64; decide, by show 100 + 64 ≠ 11; decide, by show 100 + 64 ≠ 10; decide, fun _ => .inr (.inl rfl), fun z => absurd (show 100 + 64 = 600 from z) (by decide)⟩
  · exact ⟨_, hoth, by show 6 < 100 + 64; decide, by show 100 + 64 ≠ 11; decide, by show 100 + 64 ≠ 10; decide, fun _ => .inr (.inr rfl), fun z => absurd (show 100 + 64 = 600 from z) (by decide)⟩
  · exact ⟨_, hlst, by show 6 < 100 + 128; decide, by show 100 + 128 ≠ 11; decide, by show 100 + 128 ≠ 10; decide, fun z => absurd (show 100 + 128 = 164 from z) (by decide), fun z => absurd (show 100 + 128 = 600 from z) (by decide)⟩
  · exact ⟨_, c4, by show 6 < 100 + 500; decide, by show 100 + 500 ≠ 11; decide, by show 100 + 500 ≠ 10; decide, fun z => absurd (show 100 + 500 = 164 from z) (by decide), fun _ => rfl⟩
/-- places that the reference does not have -/
theorem MI.no {G : gG} {h : gH} {m rows asd vals many way told oth lst text : Nat} {t : Nat → Nat} {bl : Nat} {off : Int32} {now und : Nat} {Ds : Nat → Dt} (c : MI G h m rows asd vals many way told oth lst text t bl off now und Ds) {s : Nat} {e : va_E} (hs : h s = some e) (hk : kd9 e < 7 ∨ kd9 e = 10 ∨ kd9 e = 11) : ∀ a, a ∈ [m, rows, asd, vals, many, way, told, oth, lst, text] → a ≠ s := fun a ha => by
  obtain ⟨e2, h1, h2, h3, h4, -⟩ := c.kd a ha
  exact ne9 h1 hs (by omega)
theorem MI.no2 {G : gG} {h : gH} {m rows asd vals many way told oth lst text : Nat} {t : Nat → Nat} {bl : Nat} {off : Int32} {now und : Nat} {Ds : Nat → Dt} (c : MI G h m rows asd vals many way told oth lst text t bl off now und Ds) {s : Nat} {e : va_E} (hs : h s = some e) (hk : kd9 e = 164) (n1 : s ≠ way) (n2 : s ≠ told) (n3 : s ≠ oth) : ∀ a, a ∈ [m, rows, asd, vals, many, way, told, oth, lst, text] → a ≠ s := fun a ha => by
  obtain ⟨e2, h1, h2, h3, h4, h5, h6⟩ := c.kd a ha
  intro e9
  subst e9
  rw [hs] at h1
  cases h1
  rcases h5 hk with z | z | z
  · exact n1 z
  · exact n2 z
  · exact n3 z
theorem MI.no3 {G : gG} {h : gH} {m rows asd vals many way told oth lst text : Nat} {t : Nat → Nat} {bl : Nat} {off : Int32} {now und : Nat} {Ds : Nat → Dt} (c : MI G h m rows asd vals many way told oth lst text t bl off now und Ds) {s : Nat} {e : va_E} (hs : h s = some e) (hk : kd9 e = 600) (n1 : s ≠ text) : ∀ a, a ∈ [m, rows, asd, vals, many, way, told, oth, lst, text] → a ≠ s := fun a ha => by
  obtain ⟨e2, h1, h2, h3, h4, h5, h6⟩ := c.kd a ha
  intro e9
  subst e9
  rw [hs] at h1
  cases h1
  exact n1 (h6 hk)
theorem nin {MAs S : List Nat} (h : ∀ s, s ∈ S → ∀ a, a ∈ MAs → a ≠ s) : ∀ a, a ∈ MAs → a ∉ S := fun a ha hs => h a hs a ha rfl
/-- the reference's places are not the class's -/
theorem MI.nc {G : gG} {h : gH} {m rows asd vals many way told oth lst text buf rw orw : Nat} {t : Nat → Nat} {bl : Nat} {off : Int32} {now und : Nat} {Ds : Nat → Dt} {fb fr fo : Nat → Int32} (c : MI G h m rows asd vals many way told oth lst text t bl off now und Ds) (hb : h buf = some (oB G 500 fb)) (hr : h rw = some (oI G 64 fr)) (ho : h orw = some (oI G 64 fo)) (ap : AP buf rw orw way told oth text) : ∀ a, a ∈ [m, rows, asd, vals, many, way, told, oth, lst, text] → nCl h buf rw orw a := fun a ha => by
  obtain ⟨e2, h1, h2, h3, h4, h5, h6⟩ := c.kd a ha
  obtain ⟨p1, p2, p3, p4, p5, p6, p7⟩ := ap
  exact ⟨⟨e2, h1, h2, h3⟩, (c.no3 hb rfl p7 a ha), (c.no2 hr rfl p1 p2 p3 a ha), (c.no2 ho rfl p4 p5 p6 a ha)⟩
theorem lg_self (x : Int64) : lg_cmp x x = 0 := by
  unfold lg_cmp
  simp
