theorem w_sld {G : gG} {z0 : Nat} {X : gX} {cc : ByteArray} {nL fr lo mc ms : Nat} {own nm : String} {Ts : List Cond} {ret : Option FieldType} {cells slots : Nat} {h : gH} {pc pc' : Nat} {L : List (Nat × Value)} {st : List Value} (F : gF G z0 X cc nL own Ts ret nm fr lo mc ms) {b N j : Nat} {xs : Nat → Int32} {v : Int32} (hX : gSc z0 X b N xs) (hj : j < N) (hN : N < 2147483648) (hv : xs j = v) (d : decode cc pc = .ok (.iaload, 1)) (hp : pc + 1 = pc') (k : gV G z0 X cells slots h pc' L (.int v :: st)) : gV G z0 X cells slots h pc L (.int (nI j) :: .ref b :: st) := by
  subst hv
  exact v_sld F hX hj hN d hp k
/-- all that holds before a call -/
def LI (G : gG) (h : gH) (x buf rd bks oq rw orw root : Nat) (m rows asd vals many way told oth lst text out : Nat) (bk bv : Nat → Nat) (k : Nat) : Prop := ∃ (t : Nat → Nat) (bl : Nat) (off : Int32) (cur und now : Nat) (Ds : Nat → Dt) (g : Nat → Int64), CI G h x buf rd bks oq rw orw root bk bv t bl off cur und k Ds ∧ MI G h m rows asd vals many way told oth lst text t bl off now und Ds ∧ AP buf rw orw way told oth text ∧ h out = some (oL G 1 g)
theorem LI.q {G : gG} {h h' : gH} {x buf rd bks oq rw orw root : Nat} {bk bv t : Nat → Nat} {bl : Nat} {off : Int32} {cur und k : Nat} {Ds : Nat → Dt} {m rows asd vals many way told oth lst text out now : Nat} {g : Nat → Int64} (c : CI G h x buf rd bks oq rw orw root bk bv t bl off cur und k Ds) (mi : MI G h m rows asd vals many way told oth lst text t bl off now und Ds) (ap : AP buf rw orw way told oth text) (ho : h out = some (oL G 1 g)) (hs : scr G h' rw orw oq) (f : gfr [rw, orw, oq] h h') : CI G h' x buf rd bks oq rw orw root bk bv t bl off cur und k Ds ∧ MI G h' m rows asd vals many way told oth lst text t bl off now und Ds ∧ h' out = some (oL G 1 g) := by
  obtain ⟨⟨f2, c9⟩, ⟨f3, c10⟩, a, b, d, e, c11⟩ := c.2.2.2.2.1
  obtain ⟨p1, p2, p3, p4, p5, p6, p7⟩ := ap
  refine ⟨c.q hs f, mi.fr (nin (fun s hs a ha => ?_)) f, f _ _ (gnc (ne9 ho c9 (by show 10 ≠ 100 + 64; decide)) (gnc (ne9 ho c10 (by show 10 ≠ 100 + 64; decide)) (gnc (ne9 ho c11 (by show 10 ≠ 2; decide)) gn0))) ho⟩
  simp only [List.mem_cons, List.not_mem_nil, or_false] at hs
  rcases hs with rfl | rfl | rfl
  · exact mi.no2 c9 rfl p1 p2 p3 a ha
  · exact mi.no2 c10 rfl p4 p5 p6 a ha
  · exact mi.no c11 (.inl (by show 2 < 7; decide)) a ha
theorem LI.o {G : gG} {h h' : gH} {x buf rd bks oq rw orw root : Nat} {bk bv t : Nat → Nat} {bl : Nat} {off : Int32} {cur und k : Nat} {Ds : Nat → Dt} {m rows asd vals many way told oth lst text out now : Nat} {g : Nat → Int64} (c : CI G h x buf rd bks oq rw orw root bk bv t bl off cur und k Ds) (mi : MI G h m rows asd vals many way told oth lst text t bl off now und Ds) (ho : h out = some (oL G 1 g)) (f : gfr [out] h h') : CI G h' x buf rd bks oq rw orw root bk bv t bl off cur und k Ds ∧ MI G h' m rows asd vals many way told oth lst text t bl off now und Ds := by
  obtain ⟨fb, c5, -⟩ := c.2.2.1
  obtain ⟨⟨f2, c9⟩, ⟨f3, c10⟩, -⟩ := c.2.2.2.2.1
  have n1 : out ≠ buf := ne9 ho c5 (by show 10 ≠ 100 + 500; decide)
  have n2 : out ≠ rw := ne9 ho c9 (by show 10 ≠ 100 + 64; decide)
  have n3 : out ≠ orw := ne9 ho c10 (by show 10 ≠ 100 + 64; decide)
  refine ⟨c.fr (S := [out]) (fun s hs => ?_) f, mi.fr (nin (fun s hs a ha => ?_)) f⟩
  · obtain rfl := List.mem_singleton.mp hs
    exact ⟨⟨_, ho, by show 6 < 10; decide, by show 10 ≠ 11; decide⟩, n1, n2, n3⟩
  · obtain rfl := List.mem_singleton.mp hs
    exact mi.no ho (.inr (.inl rfl)) a ha
/-- the reference's call: the class stands -/
theorem LI.m {G : gG} {h h' : gH} {x buf rd bks oq rw orw root : Nat} {bk bv t : Nat → Nat} {bl : Nat} {off : Int32} {cur und k : Nat} {Ds : Nat → Dt} {m rows asd vals many way told oth lst text out now : Nat} {g : Nat → Int64} {S : List Nat} (c : CI G h x buf rd bks oq rw orw root bk bv t bl off cur und k Ds) (mi : MI G h m rows asd vals many way told oth lst text t bl off now und Ds) (ap : AP buf rw orw way told oth text) (ho : h out = some (oL G 1 g)) (hS : ∀ s, s ∈ S → s ∈ [m, rows, asd, vals, many, way, told, oth, lst, text]) (f : gfr S h h') : CI G h' x buf rd bks oq rw orw root bk bv t bl off cur und k Ds ∧ h' out = some (oL G 1 g) := by
  obtain ⟨fb, c5, -⟩ := c.2.2.1
  obtain ⟨⟨f2, c9⟩, ⟨f3, c10⟩, -⟩ := c.2.2.2.2.1
  exact ⟨c.fr (fun s hs => mi.nc c5 c9 c10 ap s (hS s hs)) f, f _ _ (fun hm => mi.no ho (.inr (.inl rfl)) _ (hS _ hm) rfl) ho⟩
theorem mS.at {G : gG} {h h' : gH} {m rows asd vals many way told oth lst text now : Nat} {th und fed len spot fa fat num frm may : Int32} {R A T : Nat → Int32} (c : mS G h m rows asd vals many way told oth lst text th now und fed len spot fa fat num frm may R) (ha : h asd = some (oI G 330 A)) (ht : h text = some (oI G 500 T)) (f : gfr [m, vals, many, way, told, oth, lst] h h') : h' asd = some (oI G 330 A) ∧ h' text = some (oI G 500 T) := by
  obtain ⟨fl, rl, kd, ok, st, wm, hm, hrows, ⟨V, hvals⟩, ⟨M, hmany⟩, ⟨W, hway⟩, ⟨f1, htold⟩, ⟨g, hoth⟩, ⟨ll, hlst⟩, hn⟩ := c
  exact ⟨f _ _ (gnc (Ne.symm (g_neA hm ha)) (gnc (g_neL ha hvals (by decide)) (gnc (g_neL ha hmany (by decide)) (gnc (g_neL ha hway (by decide)) (gnc (g_neL ha htold (by decide)) (gnc (g_neL ha hoth (by decide)) (gnc (g_neL ha hlst (by decide)) gn0))))))) ha, f _ _ (gnc (Ne.symm (g_neA hm ht)) (gnc (g_neL ht hvals (by decide)) (gnc (g_neL ht hmany (by decide)) (gnc (g_neL ht hway (by decide)) (gnc (g_neL ht htold (by decide)) (gnc (g_neL ht hoth (by decide)) (gnc (g_neL ht hlst (by decide)) gn0))))))) ht⟩
theorem mS.atC {G : gG} {h h' : gH} {m rows asd vals many way told oth lst text now : Nat} {th und fed len spot fa fat num frm may : Int32} {R A T : Nat → Int32} (c : mS G h m rows asd vals many way told oth lst text th now und fed len spot fa fat num frm may R) (ha : h asd = some (oI G 330 A)) (ht : h text = some (oI G 500 T)) (f : gfr [rows, m, vals, many, way, told, oth, lst] h h') : h' asd = some (oI G 330 A) ∧ h' text = some (oI G 500 T) := by
  obtain ⟨fl, rl, kd, ok, st, wm, hm, hrows, ⟨V, hvals⟩, ⟨M, hmany⟩, ⟨W, hway⟩, ⟨f1, htold⟩, ⟨g, hoth⟩, ⟨ll, hlst⟩, hn⟩ := c
  exact ⟨f _ _ (gnc (g_neL ha hrows (by decide)) (gnc (Ne.symm (g_neA hm ha)) (gnc (g_neL ha hvals (by decide)) (gnc (g_neL ha hmany (by decide)) (gnc (g_neL ha hway (by decide)) (gnc (g_neL ha htold (by decide)) (gnc (g_neL ha hoth (by decide)) (gnc (g_neL ha hlst (by decide)) gn0)))))))) ha, f _ _ (gnc (g_neL ht hrows (by decide)) (gnc (Ne.symm (g_neA hm ht)) (gnc (g_neL ht hvals (by decide)) (gnc (g_neL ht hmany (by decide)) (gnc (g_neL ht hway (by decide)) (gnc (g_neL ht htold (by decide)) (gnc (g_neL ht hoth (by decide)) (gnc (g_neL ht hlst (by decide)) gn0)))))))) ht⟩
theorem sub_q : ∀ (m rows asd vals many way told oth lst text s : Nat), s ∈ [m, vals, many, way, told, oth, lst] → s ∈ [m, rows, asd, vals, many, way, told, oth, lst, text] := fun m rows asd vals many way told oth lst text s hs => by
  simp only [List.mem_cons, List.not_mem_nil, or_false] at hs ⊢
  omega
theorem sub_c : ∀ (m rows asd vals many way told oth lst text s : Nat), s ∈ [rows, m, vals, many, way, told, oth, lst] → s ∈ [m, rows, asd, vals, many, way, told, oth, lst, text] := fun m rows asd vals many way told oth lst text s hs => by
  simp only [List.mem_cons, List.not_mem_nil, or_false] at hs ⊢
  omega
theorem sub_l : ∀ (m rows asd vals many way told oth lst text s : Nat), s ∈ asd :: [rows, m, vals, many, way, told, oth, lst] → s ∈ [m, rows, asd, vals, many, way, told, oth, lst, text] := fun m rows asd vals many way told oth lst text s hs => by
  simp only [List.mem_cons, List.not_mem_nil, or_false] at hs ⊢
  omega
theorem sub_t : ∀ (m rows asd vals many way told oth lst text s : Nat), s ∈ text :: [m, vals, many, way, told, oth, lst] → s ∈ [m, rows, asd, vals, many, way, told, oth, lst, text] := fun m rows asd vals many way told oth lst text s hs => by
  simp only [List.mem_cons, List.not_mem_nil, or_false] at hs ⊢
  omega
