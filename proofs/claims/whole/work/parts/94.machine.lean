/-! WHAT THE TABLES SAY AT THE START -/
theorem arr_of {args : Array Value} {s : State} {ty : FieldType} (h : (Cond.arrayClass ty).before args s = true) : ∃ cA : ClassId, ArrOfT s cA ty ∧ s.vm.findClass ("[" ++ ty.toString) = some cA := by
  obtain ⟨c, k, comp, h1, h2, h3⟩ := Cond.arrayClass_spec (args := args) (first := s) (o := none) (s := s) (idx := []) h
  exact ⟨c, fun n z => ⟨fun _ q => (by cases q), k, h2, comp, h3⟩, h1⟩
theorem arr_ofR {args : Array Value} {s : State} {C : String} (h : (Cond.arrayOver (.object C)).before args s = true) : ∃ cA : ClassId, ArrOfT s cA (.object C) ∧ va_RA s cA (.object C) := by
  obtain ⟨comp, c, k, h1, -, h2, h3, h4⟩ := Cond.arrayOver_spec (args := args) (first := s) (o := none) (s := s) (idx := []) h
  exact ⟨c, fun n z => ⟨fun _ q => (by cases q), k, h2, comp, h3⟩, k, comp, h2, h3, h1, h4⟩
/-- the String constants' terms, by their numbers -/
def tm9 (i : Nat) : Term := match i with
  | 0 => .string RX3 112
  | 1 => .string RX3 118
  | 2 => .string RX3 120
  | 3 => .string RX3 122
  | 4 => .string RX6 67
  | 5 => .string RX6 90
  | 6 => .string RX6 103
  | 7 => .string RX6 121
  | 8 => .string RX6 191
  | 9 => .string RX6 196
  | 10 => .string RX6 217
  | 11 => .string RX6 222
  | 12 => .string RX6 243
  | _ => .string RX6 246
def len9 : List Nat := [5, 4, 3, 4]
def byt9 : List (List Int32) := [gBytes 0, gBytes 1, gBytes 2, gBytes 3]
theorem tm9_in : (∀ i, i < 14 → Cond.exactly (tm9 i) "java/lang/String" ∈ flatC (Jvm.Cond.and given_1 narrow_1)) := by decide +kernel
theorem co9_in : (∀ i, i < 4 → Cond.eq (.field (tm9 i) "java/lang/String" "coder" "B") (.int 0) ∈ flatC (Jvm.Cond.and given_1 narrow_1) ∧ Cond.arrayOf (.field (tm9 i) "java/lang/String" "value" "[B") .byte ∈ flatC (Jvm.Cond.and given_1 narrow_1) ∧ Cond.eq (.length (.field (tm9 i) "java/lang/String" "value" "[B")) (.int (Int32.ofNat (len9.getD i 0))) ∈ flatC (Jvm.Cond.and given_1 narrow_1)) := by decide +kernel
theorem el9_in : (∀ i, i < 4 → ∀ j, j < len9.getD i 0 → Cond.eq (.elem (.field (tm9 i) "java/lang/String" "value" "[B") (.int (Int32.ofNat j))) (.int ((byt9.getD i []).getD j 0)) ∈ flatC (Jvm.Cond.and given_1 narrow_1)) := by decide +kernel
theorem ne9_in : (∀ i, i < 4 → ∀ j, j < 4 → i ≠ j → Cond.not (Cond.eq (tm9 i) (tm9 j)) ∈ flatC (Jvm.Cond.and given_1 narrow_1) ∨ Cond.not (Cond.eq (tm9 j) (tm9 i)) ∈ flatC (Jvm.Cond.and given_1 narrow_1)) := by decide +kernel
theorem same9_in : Cond.eq (tm9 0) (.string RX7 190) ∈ flatC (Jvm.Cond.and given_1 narrow_1) ∧ Cond.eq (tm9 1) (.string RX7 199) ∈ flatC (Jvm.Cond.and given_1 narrow_1) ∧ Cond.eq (tm9 2) (.string RX7 204) ∈ flatC (Jvm.Cond.and given_1 narrow_1) ∧ Cond.eq (tm9 3) (.string RX7 209) ∈ flatC (Jvm.Cond.and given_1 narrow_1) := by decide +kernel
theorem sr9_in : ∀ q ∈ gStrs, Cond.stringRef q.1 q.2.1 q.2.2.1 ∈ lw_tbl := by decide +kernel
theorem st9_in : Cond.isRef (.static Bundle.tN "UNASSIGNED_STACK" Bundle.steD) ∈ flatC (Jvm.Cond.and given_1 narrow_1) ∧ Cond.isRef (.static Bundle.tN "SUPPRESSED_SENTINEL" Bundle.listD) ∈ flatC (Jvm.Cond.and given_1 narrow_1) ∧ Cond.isRef (.static "jdk/internal/util/Preconditions" "SIOOBE_FORMATTER" "Ljava/util/function/BiFunction;") ∈ flatC (Jvm.Cond.and given_1 narrow_1) ∧ Cond.eq (.static "java/lang/String" "COMPACT_STRINGS" "Z") (.int 1) ∈ flatC (Jvm.Cond.and given_1 narrow_1) := by decide +kernel
theorem ly9_in : Cond.laysStatic Bundle.tN "UNASSIGNED_STACK" Bundle.steD ∈ lw_tbl ∧ Cond.laysStatic Bundle.tN "SUPPRESSED_SENTINEL" Bundle.listD ∈ lw_tbl ∧ Cond.laysStatic "jdk/internal/util/Preconditions" "SIOOBE_FORMATTER" "Ljava/util/function/BiFunction;" ∈ lw_tbl ∧ Cond.laysStatic "java/lang/String" "COMPACT_STRINGS" "Z" ∈ lw_tbl ∧ Cond.initialized Bundle.tN ∈ lw_tbl ∧ Cond.initialized "jdk/internal/util/Preconditions" ∈ lw_tbl ∧ Cond.initialized "java/lang/String" ∈ lw_tbl := by decide +kernel
theorem nn9_in : Cond.methodLinkNest RX5 11 yX4_init RX6 ∈ lw_tbl ∧ Cond.methodLinkNest RX6 15 yX3_init RX6 ∈ lw_tbl ∧ Cond.methodLinkNest RX6 28 yX2_init RX6 ∈ lw_tbl ∧ (∀ E ∈ ["java/lang/IllegalArgumentException", "java/lang/IndexOutOfBoundsException", "java/util/NoSuchElementException", "java/lang/IllegalStateException"], Cond.castable E E ∈ lw_tbl) ∧ (∀ y ∈ gDecl, Cond.declares y ∈ lw_tbl) ∧ ∀ q ∈ [("java/lang/IllegalArgumentException", "java/lang/IndexOutOfBoundsException"), ("java/util/NoSuchElementException", "java/lang/IndexOutOfBoundsException"), ("java/lang/IllegalStateException", "java/lang/IndexOutOfBoundsException"), ("java/lang/IllegalStateException", "java/lang/IllegalArgumentException")], Cond.not (.castable q.1 q.2) ∈ flatC (Jvm.Cond.and given_1 narrow_1) := by decide +kernel
theorem cl9_in : Cond.arrayClass .int ∈ lw_tbl ∧ Cond.arrayClass .byte ∈ lw_tbl ∧ Cond.arrayClass .long ∈ lw_tbl ∧ Cond.arrayOver (.object RX0) ∈ lw_tbl ∧ Cond.arrayOver (.object RX5) ∈ lw_tbl ∧ Cond.instantiable RX0 4 ∈ lw_tbl ∧ Cond.instantiable RX1 2 ∈ lw_tbl ∧ Cond.instantiable RX2 4 ∈ lw_tbl ∧ Cond.instantiable RX3 10 ∈ lw_tbl ∧ Cond.instantiable RX4 6 ∈ lw_tbl ∧ Cond.instantiable RX5 9 ∈ lw_tbl ∧ Cond.instantiable RX6 10 ∈ lw_tbl ∧ Cond.instantiable RX7 26 ∈ lw_tbl := by decide +kernel
set_option maxHeartbeats 4000000 in
set_option maxRecDepth 100000 in
theorem gK_at {args : Array Value} {s : State} (hts : ∀ w ∈ lw_tbl, w.before args s = true) (hgv : (Jvm.Cond.and given_1 narrow_1).before args s = true) : ∃ G : gG, gK G s.heap.size s := by
  have hg : ∀ w ∈ flatC (Jvm.Cond.and given_1 narrow_1), w.before args s = true := flat_of_before _ hgv
  have hA : ∀ a : Nat, a < s.heap.size → ¬ (fun q : Nat => s.heap.size ≤ q) a := fun a h => Nat.not_le.mpr h
  obtain ⟨w1, w2, w3, w4, w5, v0, v1, v2, v3, v4, v5, v6, v7⟩ := cl9_in
  obtain ⟨c0, i0, k0⟩ := u_known hts inX0 (hts _ v0)
  obtain ⟨c1, i1, k1⟩ := u_known hts inX1 (hts _ v1)
  obtain ⟨c2, i2, k2⟩ := u_known hts inX2 (hts _ v2)
  obtain ⟨c3, i3, k3⟩ := u_known hts inX3 (hts _ v3)
  obtain ⟨c4, i4, k4⟩ := u_known hts inX4 (hts _ v4)
  obtain ⟨c5, i5, k5⟩ := u_known hts inX5 (hts _ v5)
  obtain ⟨c6, i6, k6⟩ := u_known hts inX6 (hts _ v6)
  obtain ⟨c7, i7, k7⟩ := u_known hts inX7 (hts _ v7)
  obtain ⟨b0, a0, r0⟩ := arr_of (hts _ w1)
  obtain ⟨b1, a1, r1⟩ := arr_of (hts _ w2)
  obtain ⟨b2, a2, r2⟩ := arr_of (hts _ w3)
  obtain ⟨b3, a3, r3⟩ := arr_ofR (hts _ w4)
  obtain ⟨b4, a4, r4⟩ := arr_ofR (hts _ w5)
  obtain ⟨adK, adV, hS9, hE9⟩ := vk_Sof (A := fun q : Nat => s.heap.size ≤ q) (N := 4) (tm := tm9) (len := len9) (byt := byt9) (by decide) (fun i hi => hg _ (tm9_in i (by omega))) (fun i hi => hg _ (co9_in i hi).1) (fun i hi => hg _ (co9_in i hi).2.1) (fun i hi => hg _ (co9_in i hi).2.2) (fun i hi j hj => hg _ (el9_in i hi j hj)) (fun i j hi hj n => (ne9_in i hi j hj n).elim (fun z => .inl (hg _ z)) (fun z => .inr (hg _ z))) hA
  have h14 : ∀ i : Nat, ∃ a : Nat, i < 14 → (tm9 i).eval args s none [] s = some (.ref a) := fun i => by
    by_cases hi : i < 14
    · obtain ⟨a, c, cA, kA, q1, -⟩ := Cond.exactly_spec (args := args) (first := s) (o := none) (s := s) (idx := []) (t := tm9 i) (cls := "java/lang/String") (hg _ (tm9_in i hi))
      exact ⟨a, fun _ => q1⟩
    · exact ⟨0, fun h => absurd h hi⟩
  obtain ⟨ad, had⟩ := Classical.axiomOfChoice h14
  have hK4 : ∀ i : Nat, i < 4 → adK i = ad i := fun i hi => by
    have e := (hE9 i hi).symm.trans (had i (by omega))
    exact Value.ref.inj (Option.some.inj e)
  have hst : ∀ q ∈ gStrs, (Term.string q.1 q.2.1).eval args s none [] s = some (.ref (ad q.2.2.2)) := by
    have e := same9_in
    intro q hq
    simp only [gStrs, List.mem_cons, List.not_mem_nil, or_false] at hq
    rcases hq with rfl | rfl | rfl | rfl | rfl | rfl | rfl | rfl | rfl | rfl | rfl | rfl | rfl | rfl | rfl | rfl | rfl | rfl
    · exact had 0 (by decide)
    · exact va_eqR (hg _ e.1) (had 0 (by decide))
    · exact had 1 (by decide)
    · exact va_eqR (hg _ e.2.1) (had 1 (by decide))
    · exact had 2 (by decide)
    · exact va_eqR (hg _ e.2.2.1) (had 2 (by decide))
    · exact had 3 (by decide)
    · exact va_eqR (hg _ e.2.2.2) (had 3 (by decide))
    · exact had 4 (by decide)
    · exact had 5 (by decide)
    · exact had 6 (by decide)
    · exact had 7 (by decide)
    · exact had 8 (by decide)
    · exact had 9 (by decide)
    · exact had 10 (by decide)
    · exact had 11 (by decide)
    · exact had 12 (by decide)
    · exact had 13 (by decide)
  refine ⟨((fun k => match k with | 0 => c0 | 1 => c1 | 2 => c2 | 3 => c3 | 4 => c4 | 5 => c5 | 6 => c6 | _ => c7, fun k => match k with | 0 => i0 | 1 => i1 | 2 => i2 | 3 => i3 | 4 => i4 | 5 => i5 | 6 => i6 | _ => i7), fun k => match k with | 0 => b0 | 1 => b1 | 2 => b2 | 3 => b3 | _ => b4, fun j => if j < 20 then ad j else adV (j - 20)), ?_⟩
  obtain ⟨y1, y2, y3, y4, y5, y6, y7⟩ := ly9_in
  obtain ⟨z1, z2, z3, z4⟩ := st9_in
  obtain ⟨n1, n2, n3, n4, n5, n6⟩ := nn9_in
  refine ⟨⟨fun c q hq => ?_, fun k q hq => ?_⟩, va_AO.of (hts _ w4), va_AO.of (hts _ w5), vx_Zqof (hts _ y1) (hts _ y5) (hg _ z1) hA, vx_Zqof (hts _ y2) (hts _ y5) (hg _ z2) hA, ⟨fun q hq => vk_R.of (hts _ (sr9_in q hq)) ?_, fun i hi => ?_, va_Zof (hts _ y4) (hts _ y7) (va_eqt (hg _ z4)) hA, va_Zqof (hts _ y3) (hts _ y6) (hg _ z3) hA⟩, ⟨va_Nw.of rfl (hts _ n1), va_Nw.of rfl (hts _ n2), va_Nw.of rfl (hts _ n3)⟩, fun E hE => va_Nw.of rfl (hts _ (n4 E hE)), fun q hq => va_Nc.of (hg _ (n6 q hq)), fun y hy => va_Nw.of rfl (hts _ (n5 y hy))⟩
  · match c, hq with
    | 0, hq => cases hq; exact k0
    | 1, hq => cases hq; exact k1
    | 2, hq => cases hq; exact k2
    | 3, hq => cases hq; exact k3
    | 4, hq => cases hq; exact k4
    | 5, hq => cases hq; exact k5
    | 6, hq => cases hq; exact k6
    | 7, hq => cases hq; exact k7
    | c + 8, hq => simp [vwCl] at hq
  · match k, hq with
    | 0, hq => cases hq; exact ⟨a0, r0⟩
    | 1, hq => cases hq; exact ⟨a1, r1⟩
    | 2, hq => cases hq; exact ⟨a2, r2⟩
    | 3, hq => cases hq; exact ⟨a3, r3⟩
    | 4, hq => cases hq; exact ⟨a4, r4⟩
    | k + 5, hq => simp [gT] at hq
  · show _ = some (Value.ref (if q.2.2.2 < 20 then ad q.2.2.2 else _))
    rw [if_pos ((by decide : ∀ q ∈ gStrs, q.2.2.2 < 20) q hq)]
    exact hst q hq
  · obtain ⟨o1, o2, o3, o4⟩ := hS9.1 i hi
    show gWd s.heap.size (if i < 20 then ad i else _) (if 20 + i < 20 then _ else adV (20 + i - 20)) (gBytes i) s s.heap
    rw [if_pos (by omega), if_neg (by omega), show 20 + i - 20 = i by omega, ← hK4 i hi]
    have e1 : len9.getD i 0 = (gBytes i).length := (by decide : ∀ i, i < 4 → len9.getD i 0 = (gBytes i).length) i hi
    have e2 : byt9.getD i [] = gBytes i := (by decide : ∀ i, i < 4 → byt9.getD i [] = gBytes i) i hi
    rw [e1, e2] at o4
    exact ⟨o1, o2, o3, o4⟩
