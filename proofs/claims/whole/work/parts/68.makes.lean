/-! THE REFERENCE: its changes -/
theorem slD.copy {R R2 : Nat → Int32} {b b2 : Nat} {D : Dt} (w9 : wfD D) (h : slD R b D) (e : ∀ k, k < 330 → R2 (b2 + k) = R (b + k)) : slD R2 b2 D := by
  have hn := w9.2.1
  obtain ⟨a1, a2, a3, a4⟩ := h
  have e0 := e 0 (by omega)
  rw [Nat.add_zero, Nat.add_zero] at e0
  refine ⟨by rw [e0]; exact a1, by rw [e 1 (by omega)]; exact a2, by rw [e 2 (by omega)]; exact a3, fun v hv => ?_⟩
  obtain ⟨c0, c1, c2, c3, c4⟩ := a4 v hv
  exact ⟨by rw [e _ (by omega)]; exact c0, by rw [e _ (by omega)]; exact c1, by rw [e _ (by omega)]; exact c2, by rw [e _ (by omega)]; exact c3, by rw [e _ (by omega)]; exact c4⟩
theorem slP.add {R R2 : Nat → Int32} {b i : Nat} {x : Int32} {D : Dt} (w9 : wfD D) (h : slD R b D) (hn : D.1 < 64) (hi : i < D.1) (g0 : R2 b = nI (D.1 + 1)) (g1 : R2 (b + (10 + 5 * D.1 + 0)) = nI i) (g2 : R2 (b + (10 + 5 * D.1 + 1)) = x) (g3 : R2 (b + (10 + 5 * D.1 + 2)) = nI D.2.1) (g4 : R2 (b + (10 + 5 * D.1 + 3)) = nI ((D.2.2.2.2 i).length + 1)) (e : ∀ k, k ≠ b → (∀ w, w < 5 → k ≠ b + (10 + 5 * D.1 + w)) → R2 k = R k) : slP R2 b (dAdd D i x) ∧ (R2 (b + (10 + 5 * D.1 + 4)) = nI (qOf ((x, D.2.1) :: D.2.2.2.2 i)).2 → slD R2 b (dAdd D i x)) := by
  obtain ⟨a1, a2, a3, a4⟩ := h
  have h1 := w9.1
  have b1 : R2 (b + 1) = nI D.2.1 := by rw [e _ (by omega) (fun w hw => by omega)]; exact a2
  have b2 : R2 (b + 2) = nI D.2.2.1 := by rw [e _ (by omega) (fun w hw => by omega)]; exact a3
  have old : ∀ v, v < D.1 → slV R2 b D v := fun v hv => by
    obtain ⟨c0, c1, c2, c3, c4⟩ := a4 v hv
    have ee : ∀ u, u < 5 → R2 (b + (10 + 5 * v + u)) = R (b + (10 + 5 * v + u)) := fun u hu => e _ (by omega) (fun w hw => by omega)
    exact ⟨by rw [ee 0 (by omega)]; exact c0, by rw [ee 1 (by omega)]; exact c1, by rw [ee 2 (by omega)]; exact c2, by rw [ee 3 (by omega)]; exact c3, by rw [ee 4 (by omega)]; exact c4⟩
  have pnew : parI (dAdd D i x) D.1 = nI i := by
    show (if D.1 = 0 then (-1 : Int32) else nI (va_up D.2.2.2.1 D.1 i D.1)) = nI i
    unfold va_up
    rw [if_neg (by omega), if_pos rfl]
  have onew : (dAdd D i x).2.2.2.2 D.1 = (x, D.2.1) :: D.2.2.2.2 i := by
    show va_up D.2.2.2.2 D.1 _ D.1 = _
    unfold va_up
    rw [if_pos rfl]
  have pold : ∀ v, v < D.1 → parI (dAdd D i x) v = parI D v := fun v hv => by
    show (if v = 0 then (-1 : Int32) else nI (va_up D.2.2.2.1 D.1 i v)) = parI D v
    unfold va_up parI
    rw [if_neg (show ¬ v = D.1 by omega)]
  have oold : ∀ v, v < D.1 → (dAdd D i x).2.2.2.2 v = D.2.2.2.2 v := fun v hv => by
    show va_up D.2.2.2.2 D.1 _ v = _
    unfold va_up
    rw [if_neg (show ¬ v = D.1 by omega)]
  refine ⟨⟨g0, b1, b2, fun v hv => ?_⟩, fun g5 => ⟨g0, b1, b2, fun v hv => ?_⟩⟩
  · change v < D.1 + 1 at hv
    by_cases ev : v = D.1
    · subst ev
      rw [pnew, onew]
      exact ⟨g1, g2, g3, g4⟩
    · obtain ⟨c0, c1, c2, c3, c4⟩ := old v (by omega)
      rw [pold v (by omega), oold v (by omega)]
      exact ⟨c0, c1, c2, c3⟩
  · change v < D.1 + 1 at hv
    by_cases ev : v = D.1
    · subst ev
      unfold slV
      rw [pnew, onew]
      exact ⟨g1, g2, g3, g4, g5⟩
    · obtain ⟨c0, c1, c2, c3, c4⟩ := old v (by omega)
      unfold slV
      rw [pold v (by omega), oold v (by omega)]
      exact ⟨c0, c1, c2, c3, c4⟩
theorem hv_X7_puts : yX7_puts.cls = RX7 ∧ yX7_puts.cls ≠ "java/lang/invoke/MethodHandle" ∧ yX7_puts.cls ≠ "java/lang/invoke/VarHandle" ∧ (parseMethodDescriptor yX7_puts.desc).map (fun d => d.parameters.length) = some 3 := by decide +kernel
theorem k_X7_makes_7 : gCl wsX7_makes 7 RX7 TX7 26 := ⟨by decide +kernel, rfl⟩
theorem m_X7_makes_f85 : Cond.fieldLink RX7 85 "SteadyQueuesModel" "steps" "I" ∈ wsX7_makes := by decide +kernel
set_option maxHeartbeats 4000000 in
set_option maxRecDepth 100000 in
theorem c_X7_makes (G : gG) (z0 : Nat) (l : Launch) {h : gH} {m rows asd vals many way told oth lst text now : Nat} {th und fed len spot fa fat num frm may : Int32} {R : Nat → Int32} {D : Dt} {i9 : Nat} (x : Int32) (hMS : mS G h m rows asd vals many way told oth lst text th now und fed len spot fa fat num frm may R) (hnow : now < 9) (w9 : wfD D) (hS : slD R (330 * now) D) (hn : D.1 < 64) (hi : i9 < D.1) (hx : wOk ((x, D.2.1) :: D.2.2.2.2 i9)) : gC G z0 l yX7_makes wsX7_makes 5 108 [.ref m, .int (nI i9), .int x] h (fun o h' => o = some (.int (nI D.1)) ∧ ∃ R' : Nat → Int32, mS G h' m rows asd vals many way told oth lst text th now und fed len spot fa fat num frm may R' ∧ slD R' (330 * now) (dAdd D i9 x) ∧ (∀ q, (q < 330 * now ∨ 330 * now + 330 ≤ q) → R' q = R q) ∧ gfr [rows, m, vals, many, way, told, oth, lst] h h') 0 0 := by
  have hMS0 := hMS
  obtain ⟨fl, rl, kd, ok, st, wm, hm, hrows, ⟨V, hvals⟩, ⟨M, hmany⟩, ⟨W, hway⟩, ⟨f, htold⟩, ⟨g, hoth⟩, ⟨ll, hlst⟩, htw, how, hto⟩ := hMS
  have h1n := w9.1
  have hn64 := w9.2.1
  have hOi := w9.os hi
  have wA : wfD (dAdd D i9 x) := w9.add hn hi hx
  have hSb := hS.2.1
  have hSi := (hS.2.2.2 i9 hi).2.2.2.1
  refine gC_of (cc := cX7_makes) (nL := 4) (ret := (some .int)) (by decide) rfl (Nat.le_of_ble_eq_true rfl) ?_
  intro X F E _
  change gF G z0 X cX7_makes 4 RX7 wsX7_makes (some .int) "makes" 5 108 _ _ at F
  show gV G z0 X 0 0 h 0 [(0, .ref m), (1, .int (nI i9)), (2, .int x)] []
  refine v_aload_n (pc' := 1) F dX7_makes_0 rfl (j := 0) rfl rfl ?_
  refine v_callV (pc' := 4) (rt := (some .int)) (mcc := 0) (msc := 0) (As := []) (st := []) F (fun l => c_X7_versions G z0 l hm hrows hnow hS.1) gX7_makes_X7_versions rfl hv_X7_versions (by decide) (by decide) hm rfl rfl rfl (Nat.le_of_ble_eq_true rfl) (by omega) (by omega) dX7_makes_1 rfl (fun v1 h hqv => ?_)
  obtain ⟨rfl, rfl⟩ := hqv
  refine v_istore_n (pc' := 5) (i := 3) (L' := [(3, .int (nI D.1)), (0, .ref m), (1, .int (nI i9)), (2, .int x)]) F dX7_makes_4 rfl (by decide) rfl rfl ?_
  refine v_aload_n (pc' := 6) F dX7_makes_5 rfl (j := 1) rfl rfl ?_
  refine v_iload_n (pc' := 7) F dX7_makes_6 rfl (j := 0) rfl rfl ?_
  refine v_iconst (pc' := 8) (v := nI 0) F dX7_makes_7 (by decide) rfl ?_
  refine v_iload_n (pc' := 9) F dX7_makes_8 rfl (j := 2) rfl rfl ?_
  refine v_callV (pc' := 12) (rt := none) (mcc := 0) (msc := 0) (As := [.int (nI D.1), .int (nI 0), .int (nI i9)]) (st := []) F (fun l => c_X7_puts G z0 l (v := D.1) (w := 0) (nI i9) hm hrows hnow (by omega) (by omega)) gX7_makes_X7_puts rfl hv_X7_puts (by decide) (by decide) hm rfl rfl rfl (Nat.le_of_ble_eq_true rfl) (by omega) (by omega) dX7_makes_9 rfl (fun v3 h2 hqw => ?_)
  obtain ⟨rfl, rR1, frR1⟩ := hqw
  have eR1 : ∀ q, q ≠ 330 * now + (10 + 5 * D.1 + 0) → upd R (330 * now + (10 + 5 * D.1 + 0)) (nI i9) q = R q := fun q hq => upd_ne hq
  have fR1 : upd R (330 * now + (10 + 5 * D.1 + 0)) (nI i9) (330 * now + (10 + 5 * D.1 + 0)) = (nI i9) := upd_eq _ _ _
  generalize upd R (330 * now + (10 + 5 * D.1 + 0)) (nI i9) = R1 at rR1 eR1 fR1
  refine v_aload_n (pc' := 13) F dX7_makes_12 rfl (j := 1) rfl rfl ?_
  refine v_iload_n (pc' := 14) F dX7_makes_13 rfl (j := 0) rfl rfl ?_
  refine v_iconst (pc' := 15) (v := nI 1) F dX7_makes_14 (by decide) rfl ?_
  refine v_iload_n (pc' := 16) F dX7_makes_15 rfl (j := 3) rfl rfl ?_
  have g4 := frR1 _ _ (gnc (g_neA hm hrows) gn0) hm
  refine v_callV (pc' := 19) (rt := none) (mcc := 0) (msc := 0) (As := [.int (nI D.1), .int (nI 1), .int x]) (st := []) F (fun l => c_X7_puts G z0 l (v := D.1) (w := 1) x g4 rR1 hnow (by omega) (by omega)) gX7_makes_X7_puts rfl hv_X7_puts (by decide) (by decide) g4 rfl rfl rfl (Nat.le_of_ble_eq_true rfl) (by omega) (by omega) dX7_makes_16 rfl (fun v6 h5 hqw => ?_)
  obtain ⟨rfl, rR2, frR2⟩ := hqw
  have eR2 : ∀ q, q ≠ 330 * now + (10 + 5 * D.1 + 1) → upd R1 (330 * now + (10 + 5 * D.1 + 1)) x q = R1 q := fun q hq => upd_ne hq
  have fR2 : upd R1 (330 * now + (10 + 5 * D.1 + 1)) x (330 * now + (10 + 5 * D.1 + 1)) = x := upd_eq _ _ _
  generalize upd R1 (330 * now + (10 + 5 * D.1 + 1)) x = R2 at rR2 eR2 fR2
  refine v_aload_n (pc' := 20) F dX7_makes_19 rfl (j := 1) rfl rfl ?_
  refine v_iload_n (pc' := 21) F dX7_makes_20 rfl (j := 0) rfl rfl ?_
  refine v_iconst (pc' := 22) (v := nI 2) F dX7_makes_21 (by decide) rfl ?_
  refine v_aload_n (pc' := 23) F dX7_makes_22 rfl (j := 1) rfl rfl ?_
  refine v_iconst (pc' := 24) (v := nI 1) F dX7_makes_23 (by decide) rfl ?_
  have hg1 : R2 (330 * now + 1) = nI D.2.1 := by rw [eR2 _ (by omega), eR1 _ (by omega)]; exact hSb
  have g7 := frR2 _ _ (gnc (g_neA g4 rR1) gn0) g4
  refine v_callV (pc' := 27) (rt := (some .int)) (mcc := 0) (msc := 0) (As := [.int (nI 1)]) (st := [.int (nI 2), .int (nI D.1), .ref m]) F (fun l => c_X7_get G z0 l (k := 1) g7 rR2 hnow (by omega)) gX7_makes_X7_get rfl hv_X7_get (by decide) (by decide) g7 rfl rfl rfl (Nat.le_of_ble_eq_true rfl) (by omega) (by omega) dX7_makes_24 rfl (fun v8 h5 hqg => ?_)
  rw [hg1] at hqg; obtain ⟨rfl, rfl⟩ := hqg
  refine v_callV (pc' := 30) (rt := none) (mcc := 0) (msc := 0) (As := [.int (nI D.1), .int (nI 2), .int (nI D.2.1)]) (st := []) F (fun l => c_X7_puts G z0 l (v := D.1) (w := 2) (nI D.2.1) g7 rR2 hnow (by omega) (by omega)) gX7_makes_X7_puts rfl hv_X7_puts (by decide) (by decide) g7 rfl rfl rfl (Nat.le_of_ble_eq_true rfl) (by omega) (by omega) dX7_makes_27 rfl (fun v10 h9 hqw => ?_)
  obtain ⟨rfl, rR3, frR3⟩ := hqw
  have eR3 : ∀ q, q ≠ 330 * now + (10 + 5 * D.1 + 2) → upd R2 (330 * now + (10 + 5 * D.1 + 2)) (nI D.2.1) q = R2 q := fun q hq => upd_ne hq
  have fR3 : upd R2 (330 * now + (10 + 5 * D.1 + 2)) (nI D.2.1) (330 * now + (10 + 5 * D.1 + 2)) = (nI D.2.1) := upd_eq _ _ _
  generalize upd R2 (330 * now + (10 + 5 * D.1 + 2)) (nI D.2.1) = R3 at rR3 eR3 fR3
  refine v_aload_n (pc' := 31) F dX7_makes_30 rfl (j := 1) rfl rfl ?_
  refine v_iload_n (pc' := 32) F dX7_makes_31 rfl (j := 0) rfl rfl ?_
  refine v_iconst (pc' := 33) (v := nI 3) F dX7_makes_32 (by decide) rfl ?_
  refine v_aload_n (pc' := 34) F dX7_makes_33 rfl (j := 1) rfl rfl ?_
  refine v_iload_n (pc' := 35) F dX7_makes_34 rfl (j := 2) rfl rfl ?_
  refine v_iconst (pc' := 36) (v := nI 3) F dX7_makes_35 (by decide) rfl ?_
  have y11 := (show R3 (330 * now + (10 + 5 * i9 + 3)) = nI (D.2.2.2.2 i9).length by rw [eR3 _ (by omega), eR2 _ (by omega), eR1 _ (by omega)]; exact hSi)
  have g12 := frR3 _ _ (gnc (g_neA g7 rR2) gn0) g7
  refine v_callV (pc' := 39) (rt := (some .int)) (mcc := 0) (msc := 0) (As := [.int (nI i9), .int (nI 3)]) (st := [.int (nI 3), .int (nI D.1), .ref m]) F (fun l => c_X7_of G z0 l (v := i9) (w := 3) g12 rR3 hnow (by omega) (by omega)) gX7_makes_X7_of rfl hv_X7_of (by decide) (by decide) g12 rfl rfl rfl (Nat.le_of_ble_eq_true rfl) (by omega) (by omega) dX7_makes_36 rfl (fun v13 h9 hqo => ?_)
  rw [y11] at hqo; obtain ⟨rfl, rfl⟩ := hqo
  refine v_iconst (pc' := 40) (v := nI 1) F dX7_makes_39 (by decide) rfl ?_
  refine v_iadd (pc' := 41) (v := nI ((D.2.2.2.2 i9).length + 1)) F dX7_makes_40 (nI_add ((D.2.2.2.2 i9).length) 1) rfl ?_
  refine v_callV (pc' := 44) (rt := none) (mcc := 0) (msc := 0) (As := [.int (nI D.1), .int (nI 3), .int (nI ((D.2.2.2.2 i9).length + 1))]) (st := []) F (fun l => c_X7_puts G z0 l (v := D.1) (w := 3) (nI ((D.2.2.2.2 i9).length + 1)) g12 rR3 hnow (by omega) (by omega)) gX7_makes_X7_puts rfl hv_X7_puts (by decide) (by decide) g12 rfl rfl rfl (Nat.le_of_ble_eq_true rfl) (by omega) (by omega) dX7_makes_41 rfl (fun v15 h14 hqw => ?_)
  obtain ⟨rfl, rR4, frR4⟩ := hqw
  have eR4 : ∀ q, q ≠ 330 * now + (10 + 5 * D.1 + 3) → upd R3 (330 * now + (10 + 5 * D.1 + 3)) (nI ((D.2.2.2.2 i9).length + 1)) q = R3 q := fun q hq => upd_ne hq
  have fR4 : upd R3 (330 * now + (10 + 5 * D.1 + 3)) (nI ((D.2.2.2.2 i9).length + 1)) (330 * now + (10 + 5 * D.1 + 3)) = (nI ((D.2.2.2.2 i9).length + 1)) := upd_eq _ _ _
  generalize upd R3 (330 * now + (10 + 5 * D.1 + 3)) (nI ((D.2.2.2.2 i9).length + 1)) = R4 at rR4 eR4 fR4
  refine v_aload_n (pc' := 45) F dX7_makes_44 rfl (j := 1) rfl rfl ?_
  refine v_iconst (pc' := 46) (v := nI 0) F dX7_makes_45 (by decide) rfl ?_
  refine v_iload_n (pc' := 47) F dX7_makes_46 rfl (j := 0) rfl rfl ?_
  refine v_iconst (pc' := 48) (v := nI 1) F dX7_makes_47 (by decide) rfl ?_
  refine v_iadd (pc' := 49) (v := nI (D.1 + 1)) F dX7_makes_48 (nI_add D.1 1) rfl ?_
  have g16 := frR4 _ _ (gnc (g_neA g12 rR3) gn0) g12
  refine v_callV (pc' := 52) (rt := none) (mcc := 0) (msc := 0) (As := [.int (nI 0), .int (nI (D.1 + 1))]) (st := []) F (fun l => c_X7_put G z0 l (k := 0) (nI (D.1 + 1)) g16 rR4 hnow (by omega)) gX7_makes_X7_put rfl hv_X7_put (by decide) (by decide) g16 rfl rfl rfl (Nat.le_of_ble_eq_true rfl) (by omega) (by omega) dX7_makes_49 rfl (fun v18 h17 hqw => ?_)
  obtain ⟨rfl, rR5, frR5⟩ := hqw
  have eR5 : ∀ q, q ≠ 330 * now + 0 → upd R4 (330 * now + 0) (nI (D.1 + 1)) q = R4 q := fun q hq => upd_ne hq
  have fR5 : upd R4 (330 * now + 0) (nI (D.1 + 1)) (330 * now + 0) = (nI (D.1 + 1)) := upd_eq _ _ _
  generalize upd R4 (330 * now + 0) (nI (D.1 + 1)) = R5 at rR5 eR5 fR5
  rw [Nat.add_zero] at eR5 fR5
  refine v_aload_n (pc' := 53) F dX7_makes_52 rfl (j := 1) rfl rfl ?_
  refine v_iload_n (pc' := 54) F dX7_makes_53 rfl (j := 0) rfl rfl ?_
  have hP := slP.add (x := x) (R2 := R5) w9 hS hn hi fR5 (by rw [eR5 _ (by omega), eR4 _ (by omega), eR3 _ (by omega), eR2 _ (by omega)]; exact fR1) (by rw [eR5 _ (by omega), eR4 _ (by omega), eR3 _ (by omega)]; exact fR2) (by rw [eR5 _ (by omega), eR4 _ (by omega)]; exact fR3) (by rw [eR5 _ (by omega)]; exact fR4) (fun k hk hw => by rw [eR5 k hk, eR4 k (hw 3 (by omega)), eR3 k (hw 2 (by omega)), eR2 k (hw 1 (by omega)), eR1 k (hw 0 (by omega))])
  have g19 := frR5 _ _ (gnc (g_neA g16 rR4) gn0) g16
  have g20 := frR1 _ _ (gnc (g_neL hvals hrows (by decide)) gn0) hvals
  have g21 := frR2 _ _ (gnc (g_neL g20 rR1 (by decide)) gn0) g20
  have g22 := frR3 _ _ (gnc (g_neL g21 rR2 (by decide)) gn0) g21
  have g23 := frR4 _ _ (gnc (g_neL g22 rR3 (by decide)) gn0) g22
  have g24 := frR5 _ _ (gnc (g_neL g23 rR4 (by decide)) gn0) g23
  have g25 := frR1 _ _ (gnc (g_neL hmany hrows (by decide)) gn0) hmany
  have g26 := frR2 _ _ (gnc (g_neL g25 rR1 (by decide)) gn0) g25
  have g27 := frR3 _ _ (gnc (g_neL g26 rR2 (by decide)) gn0) g26
  have g28 := frR4 _ _ (gnc (g_neL g27 rR3 (by decide)) gn0) g27
  have g29 := frR5 _ _ (gnc (g_neL g28 rR4 (by decide)) gn0) g28
  have g30 := frR1 _ _ (gnc (g_neL hway hrows (by decide)) gn0) hway
  have g31 := frR2 _ _ (gnc (g_neL g30 rR1 (by decide)) gn0) g30
  have g32 := frR3 _ _ (gnc (g_neL g31 rR2 (by decide)) gn0) g31
  have g33 := frR4 _ _ (gnc (g_neL g32 rR3 (by decide)) gn0) g32
  have g34 := frR5 _ _ (gnc (g_neL g33 rR4 (by decide)) gn0) g33
  have g35 := frR1 _ _ (gnc (g_neL htold hrows (by decide)) gn0) htold
  have g36 := frR2 _ _ (gnc (g_neL g35 rR1 (by decide)) gn0) g35
  have g37 := frR3 _ _ (gnc (g_neL g36 rR2 (by decide)) gn0) g36
  have g38 := frR4 _ _ (gnc (g_neL g37 rR3 (by decide)) gn0) g37
  have g39 := frR5 _ _ (gnc (g_neL g38 rR4 (by decide)) gn0) g38
  have g40 := frR1 _ _ (gnc (g_neL hoth hrows (by decide)) gn0) hoth
  have g41 := frR2 _ _ (gnc (g_neL g40 rR1 (by decide)) gn0) g40
  have g42 := frR3 _ _ (gnc (g_neL g41 rR2 (by decide)) gn0) g41
  have g43 := frR4 _ _ (gnc (g_neL g42 rR3 (by decide)) gn0) g42
  have g44 := frR5 _ _ (gnc (g_neL g43 rR4 (by decide)) gn0) g43
  have g45 := frR1 _ _ (gnc (g_neL hlst hrows (by decide)) gn0) hlst
  have g46 := frR2 _ _ (gnc (g_neL g45 rR1 (by decide)) gn0) g45
  have g47 := frR3 _ _ (gnc (g_neL g46 rR2 (by decide)) gn0) g46
  have g48 := frR4 _ _ (gnc (g_neL g47 rR3 (by decide)) gn0) g47
  have g49 := frR5 _ _ (gnc (g_neL g48 rR4 (by decide)) gn0) g48
  have onew : (dAdd D i9 x).2.2.2.2 D.1 = (x, D.2.1) :: D.2.2.2.2 i9 := by show va_up D.2.2.2.2 D.1 _ D.1 = _; unfold va_up; rw [if_pos rfl]
  refine v_callV (pc' := 57) (rt := none) (mcc := 0) (msc := 0) (As := [.int (nI D.1)]) (st := []) F (fun l => s_X7_laysP G z0 l (D := (dAdd D i9 x)) (v := D.1) ⟨_, _, _, _, _, _, g19, rR5, ⟨_, g24⟩, ⟨_, g29⟩, ⟨_, g34⟩, ⟨_, g39⟩, ⟨_, g44⟩, ⟨_, g49⟩, htw, how, hto⟩ hnow wA hP.1 (show D.1 < D.1 + 1 by omega)) gX7_makes_X7_lays rfl hv_X7_lays (by decide) (by decide) g19 rfl rfl rfl (Nat.le_of_ble_eq_true rfl) (by omega) (by omega) dX7_makes_54 rfl (fun v51 h50 hqc => ?_)
  obtain ⟨rfl, hLA, frA⟩ := hqc
  have hne9 := hLA.ne
  rw [onew] at hLA
  obtain ⟨wm3, hm3, hrows3, hq3, ⟨W3, hway3⟩, ⟨f3, htold3⟩, ⟨g3, hoth3⟩, ⟨ll3, hlst3⟩, -, -, -⟩ := hLA
  have hq3b := hq3
  obtain ⟨V3, M3, ls3, hvals3, hmany3, hls3, hT3⟩ := hq3b
  refine v_aload_n (pc' := 58) F dX7_makes_57 rfl (j := 1) rfl rfl ?_
  refine v_iload_n (pc' := 59) F dX7_makes_58 rfl (j := 0) rfl rfl ?_
  refine v_iconst (pc' := 60) (v := nI 4) F dX7_makes_59 (by decide) rfl ?_
  refine v_aload_n (pc' := 61) F dX7_makes_60 rfl (j := 1) rfl rfl ?_
  refine v_getf (pc' := 64) (v := .int (nI ((qOf ((x, D.2.1) :: D.2.2.2.2 i9)).2))) F k_X7_makes_7 hm3 11 (by decide) m_X7_makes_f85 rfl dX7_makes_61 rfl ?_
  refine v_callV (pc' := 67) (rt := none) (mcc := 0) (msc := 0) (As := [.int (nI D.1), .int (nI 4), .int (nI ((qOf ((x, D.2.1) :: D.2.2.2.2 i9)).2))]) (st := []) F (fun l => c_X7_puts G z0 l (v := D.1) (w := 4) (nI ((qOf ((x, D.2.1) :: D.2.2.2.2 i9)).2)) hm3 hrows3 hnow (by omega) (by omega)) gX7_makes_X7_puts rfl hv_X7_puts (by decide) (by decide) hm3 rfl rfl rfl (Nat.le_of_ble_eq_true rfl) (by omega) (by omega) dX7_makes_64 rfl (fun v53 h52 hqw => ?_)
  obtain ⟨rfl, rR6, frR6⟩ := hqw
  have eR6 : ∀ q, q ≠ 330 * now + (10 + 5 * D.1 + 4) → upd R5 (330 * now + (10 + 5 * D.1 + 4)) (nI ((qOf ((x, D.2.1) :: D.2.2.2.2 i9)).2)) q = R5 q := fun q hq => upd_ne hq
  have fR6 : upd R5 (330 * now + (10 + 5 * D.1 + 4)) (nI ((qOf ((x, D.2.1) :: D.2.2.2.2 i9)).2)) (330 * now + (10 + 5 * D.1 + 4)) = (nI ((qOf ((x, D.2.1) :: D.2.2.2.2 i9)).2)) := upd_eq _ _ _
  generalize upd R5 (330 * now + (10 + 5 * D.1 + 4)) (nI ((qOf ((x, D.2.1) :: D.2.2.2.2 i9)).2)) = R6 at rR6 eR6 fR6
  have hP6 := slP.add (x := x) (R2 := R6) w9 hS hn hi (by rw [eR6 _ (by omega)]; exact fR5) (by rw [eR6 _ (by omega), eR5 _ (by omega), eR4 _ (by omega), eR3 _ (by omega), eR2 _ (by omega)]; exact fR1) (by rw [eR6 _ (by omega), eR5 _ (by omega), eR4 _ (by omega), eR3 _ (by omega)]; exact fR2) (by rw [eR6 _ (by omega), eR5 _ (by omega), eR4 _ (by omega)]; exact fR3) (by rw [eR6 _ (by omega), eR5 _ (by omega)]; exact fR4) (fun k hk hw => by rw [eR6 k (hw 4 (by omega)), eR5 k hk, eR4 k (hw 3 (by omega)), eR3 k (hw 2 (by omega)), eR2 k (hw 1 (by omega)), eR1 k (hw 0 (by omega))])
  refine v_iload_n (pc' := 68) F dX7_makes_67 rfl (j := 0) rfl rfl ?_
  have fr54 : gfr [rows, m, vals, many, way, told, oth, lst] h h52 := (gfr.t (gfr.mono frR1 (by intro q9 z9 m9; apply z9; simp only [List.mem_cons, List.not_mem_nil, or_false] at m9 ⊢; omega)) (gfr.t (gfr.mono frR2 (by intro q9 z9 m9; apply z9; simp only [List.mem_cons, List.not_mem_nil, or_false] at m9 ⊢; omega)) (gfr.t (gfr.mono frR3 (by intro q9 z9 m9; apply z9; simp only [List.mem_cons, List.not_mem_nil, or_false] at m9 ⊢; omega)) (gfr.t (gfr.mono frR4 (by intro q9 z9 m9; apply z9; simp only [List.mem_cons, List.not_mem_nil, or_false] at m9 ⊢; omega)) (gfr.t (gfr.mono frR5 (by intro q9 z9 m9; apply z9; simp only [List.mem_cons, List.not_mem_nil, or_false] at m9 ⊢; omega)) (gfr.t (gfr.mono frA (by intro q9 z9 m9; apply z9; simp only [List.mem_cons, List.not_mem_nil, or_false] at m9 ⊢; omega)) (gfr.mono frR6 (by intro q9 z9 m9; apply z9; simp only [List.mem_cons, List.not_mem_nil, or_false] at m9 ⊢; omega))))))))
  have g55 := frR6 _ _ (gnc (g_neA hm3 hrows3) gn0) hm3
  have g56 := frR6 _ _ (gnc (g_neL hvals3 hrows3 (by decide)) gn0) hvals3
  have g57 := frR6 _ _ (gnc (g_neL hmany3 hrows3 (by decide)) gn0) hmany3
  have g58 := frR6 _ _ (gnc (g_neL hway3 hrows3 (by decide)) gn0) hway3
  have g59 := frR6 _ _ (gnc (g_neL htold3 hrows3 (by decide)) gn0) htold3
  have g60 := frR6 _ _ (gnc (g_neL hoth3 hrows3 (by decide)) gn0) hoth3
  have g61 := frR6 _ _ (gnc (g_neL hlst3 hrows3 (by decide)) gn0) hlst3
  exact v_iret F E (by omega) (by omega)  dX7_makes_68 ⟨rfl, R6, ⟨_, _, _, _, _, _, g55, rR6, ⟨_, g56⟩, ⟨_, g57⟩, ⟨_, g58⟩, ⟨_, g59⟩, ⟨_, g60⟩, ⟨_, g61⟩, htw, how, hto⟩, hP6.2 fR6, fun q hq => by rw [eR6 q (by omega), eR5 q (by omega), eR4 q (by omega), eR3 q (by omega), eR2 q (by omega), eR1 q (by omega)], fr54⟩
theorem k_X7_change_7 : gCl wsX7_change 7 RX7 TX7 26 := ⟨by decide +kernel, rfl⟩
theorem m_X7_change_f47 : Cond.fieldLink RX7 47 "SteadyQueuesModel" "now" "I" ∈ wsX7_change := by decide +kernel
theorem m_X7_change_f58 : Cond.fieldLink RX7 58 "SteadyQueuesModel" "undoable" "I" ∈ wsX7_change := by decide +kernel
theorem m_X7_change_f7 : Cond.fieldLink RX7 7 "SteadyQueuesModel" "rows" "[I" ∈ wsX7_change := by decide +kernel
set_option maxHeartbeats 4000000 in
set_option maxRecDepth 100000 in
theorem lp_X7_change {G : gG} {z0 : Nat} {X : gX} {l : Launch} {post : Option Value → gH → Prop} {mc ms cells slots j k ud : Nat} {h : gH} {m rows asd now vals many way told oth lst text : Nat} {th fl rl kd ok st wm fed len spot fa fat num frm may : Int32} {R : Nat → Int32} (F : gF G z0 X cX7_change 3 RX7 wsX7_change none "change" 1 21 mc ms) (E : gE G z0 X post mc ms) (hcc : cells ≤ mc) (hss : slots ≤ ms) (hm : h m = some (.inr (7, [.int th, .ref rows, .ref asd, .int (nI now), .int (nI ud), .ref vals, .ref many, .int fl, .int rl, .int kd, .int ok, .int st, .ref way, .int wm, .ref told, .ref oth, .ref lst, .ref text, .int fed, .int len, .int spot, .int fa, .int fat, .int num, .int frm, .int may]))) (hrows : h rows = some (oI G 2970 R)) (hnow : now < 9) (hud : ud ≤ 8) (hkj : k + j = 330) (hp : ∀ (h' : gH) (R' : Nat → Int32), h' m = some (.inr (7, [.int th, .ref rows, .ref asd, .int (nI ((now + 1) % 9)), .int (nI (min 8 (ud + 1))), .ref vals, .ref many, .int fl, .int rl, .int kd, .int ok, .int st, .ref way, .int wm, .ref told, .ref oth, .ref lst, .ref text, .int fed, .int len, .int spot, .int fa, .int fat, .int num, .int frm, .int may])) → h' rows = some (oI G 2970 R') → (∀ q, (q < 330 * ((now + 1) % 9) ∨ 330 * ((now + 1) % 9) + 330 ≤ q ∨ q < 330 * ((now + 1) % 9) + k) → R' q = R q) → (∀ i, k ≤ i → i < 330 → R' (330 * ((now + 1) % 9) + i) = R (330 * now + i)) → gfr [m, rows] h h' → post none h') : gV G z0 X cells slots h 12 [(2, .int (nI k)), (1, .int (nI ((now + 1) % 9))), (0, .ref m)] [] := by
  have hlt : (now + 1) % 9 < 9 := Nat.mod_lt _ (by omega)
  induction j generalizing k h R with
  | zero =>
    obtain rfl : k = 330 := by omega
    refine v_iload_n (pc' := 13) F dX7_change_12 rfl (j := 0) rfl rfl ?_
    refine v_sipush (pc' := 16) (v := nI 330) F dX7_change_13 (by decide) rfl ?_
    refine w_icmp_ge (tgt := 42) (pc' := 19) F (by omega) (by omega) dX7_change_16 (by decide) rfl (fun _ => ?_) (fun c0 => absurd c0 (by omega))
    refine v_aload_n (pc' := 43) F dX7_change_42 rfl (j := 2) rfl rfl ?_
    refine v_iload_n (pc' := 44) F dX7_change_43 rfl (j := 1) rfl rfl ?_
    refine w_putf (pc' := 47) F k_X7_change_7 tyX7_ok nmX7 hm 3 (by decide) m_X7_change_f47 rfl  rfl rfl (show 3 < 26 by decide) [.int th, .ref rows, .ref asd, .int (nI ((now + 1) % 9)), .int (nI ud), .ref vals, .ref many, .int fl, .int rl, .int kd, .int ok, .int st, .ref way, .int wm, .ref told, .ref oth, .ref lst, .ref text, .int fed, .int len, .int spot, .int fa, .int fat, .int num, .int frm, .int may] rfl dX7_change_44 rfl (fun h1 a2 f3 => ?_)
    refine v_aload_n (pc' := 48) F dX7_change_47 rfl (j := 2) rfl rfl ?_
    refine v_aload_n (pc' := 49) F dX7_change_48 rfl (j := 2) rfl rfl ?_
    refine v_getf (pc' := 52) (v := .int (nI ud)) F k_X7_change_7 a2 4 (by decide) m_X7_change_f58 rfl dX7_change_49 rfl ?_
    refine v_bipush (pc' := 54) (v := nI 8) F dX7_change_52 (by decide) rfl ?_
    refine w_icmp_ge (tgt := 66) (pc' := 57) F (by omega) (by omega) dX7_change_54 (by decide) rfl (fun c0 => ?_) (fun c0 => ?_)
    · have em : min 8 (ud + 1) = ud := by omega
      refine v_aload_n (pc' := 67) F dX7_change_66 rfl (j := 2) rfl rfl ?_
      refine v_getf (pc' := 70) (v := .int (nI ud)) F k_X7_change_7 a2 4 (by decide) m_X7_change_f58 rfl dX7_change_67 rfl ?_
      refine w_putf (pc' := 73) F k_X7_change_7 tyX7_ok nmX7 a2 4 (by decide) m_X7_change_f58 rfl  rfl rfl (show 4 < 26 by decide) [.int th, .ref rows, .ref asd, .int (nI ((now + 1) % 9)), .int (nI ud), .ref vals, .ref many, .int fl, .int rl, .int kd, .int ok, .int st, .ref way, .int wm, .ref told, .ref oth, .ref lst, .ref text, .int fed, .int len, .int spot, .int fa, .int fat, .int num, .int frm, .int may] rfl dX7_change_70 rfl (fun h4 a5 f6 => ?_)
      have fr7 : gfr [m, rows] h h4 := (gfr.t (gfr.mono f3 (by intro q9 z9 m9; apply z9; simp only [List.mem_cons, List.not_mem_nil, or_false] at m9 ⊢; omega)) (gfr.mono f6 (by intro q9 z9 m9; apply z9; simp only [List.mem_cons, List.not_mem_nil, or_false] at m9 ⊢; omega)))
      have g8 := f3 _ _ (gnc (Ne.symm (g_neA hm hrows)) gn0) hrows
      have g9 := f6 _ _ (gnc (Ne.symm (g_neA a2 g8)) gn0) g8
      exact v_vret F E (by omega) (by omega)  dX7_change_73 (hp h4 R (by rw [em]; exact a5) g9 (fun q hq => rfl) (fun i hi h2 => absurd hi (by omega)) fr7)
    · have em : min 8 (ud + 1) = ud + 1 := by omega
      refine v_aload_n (pc' := 58) F dX7_change_57 rfl (j := 2) rfl rfl ?_
      refine v_getf (pc' := 61) (v := .int (nI ud)) F k_X7_change_7 a2 4 (by decide) m_X7_change_f58 rfl dX7_change_58 rfl ?_
      refine v_iconst (pc' := 62) (v := nI 1) F dX7_change_61 (by decide) rfl ?_
      refine v_iadd (pc' := 63) (v := nI (ud + 1)) F dX7_change_62 (nI_add ud 1) rfl ?_
      refine v_goto (tgt := 70) F dX7_change_63 (by decide) ?_
      refine w_putf (pc' := 73) F k_X7_change_7 tyX7_ok nmX7 a2 4 (by decide) m_X7_change_f58 rfl  rfl rfl (show 4 < 26 by decide) [.int th, .ref rows, .ref asd, .int (nI ((now + 1) % 9)), .int (nI (ud + 1)), .ref vals, .ref many, .int fl, .int rl, .int kd, .int ok, .int st, .ref way, .int wm, .ref told, .ref oth, .ref lst, .ref text, .int fed, .int len, .int spot, .int fa, .int fat, .int num, .int frm, .int may] rfl dX7_change_70 rfl (fun h10 a11 f12 => ?_)
      have fr13 : gfr [m, rows] h h10 := (gfr.t (gfr.mono f3 (by intro q9 z9 m9; apply z9; simp only [List.mem_cons, List.not_mem_nil, or_false] at m9 ⊢; omega)) (gfr.mono f12 (by intro q9 z9 m9; apply z9; simp only [List.mem_cons, List.not_mem_nil, or_false] at m9 ⊢; omega)))
      have g14 := f3 _ _ (gnc (Ne.symm (g_neA hm hrows)) gn0) hrows
      have g15 := f12 _ _ (gnc (Ne.symm (g_neA a2 g14)) gn0) g14
      exact v_vret F E (by omega) (by omega)  dX7_change_73 (hp h10 R (by rw [em]; exact a11) g15 (fun q hq => rfl) (fun i hi h2 => absurd hi (by omega)) fr13)
  | succ j ih =>
    refine v_iload_n (pc' := 13) F dX7_change_12 rfl (j := 0) rfl rfl ?_
    refine v_sipush (pc' := 16) (v := nI 330) F dX7_change_13 (by decide) rfl ?_
    refine w_icmp_ge (tgt := 42) (pc' := 19) F (by omega) (by omega) dX7_change_16 (by decide) rfl (fun c0 => absurd c0 (by omega)) (fun _ => ?_)
    refine v_aload_n (pc' := 20) F dX7_change_19 rfl (j := 2) rfl rfl ?_
    refine v_getf (pc' := 23) (v := .ref rows) F k_X7_change_7 hm 1 (by decide) m_X7_change_f7 rfl dX7_change_20 rfl ?_
    refine v_sipush (pc' := 26) (v := nI 330) F dX7_change_23 (by decide) rfl ?_
    refine v_iload_n (pc' := 27) F dX7_change_26 rfl (j := 1) rfl rfl ?_
    refine v_imul (pc' := 28) (v := nI (330 * ((now + 1) % 9))) F dX7_change_27 (pk_mul 330 ((now + 1) % 9)) rfl ?_
    refine v_iload_n (pc' := 29) F dX7_change_28 rfl (j := 0) rfl rfl ?_
    refine v_iadd (pc' := 30) (v := nI ((330 * ((now + 1) % 9)) + k)) F dX7_change_29 (nI_add (330 * ((now + 1) % 9)) k) rfl ?_
    refine v_aload_n (pc' := 31) F dX7_change_30 rfl (j := 2) rfl rfl ?_
    refine v_iload_n (pc' := 32) F dX7_change_31 rfl (j := 0) rfl rfl ?_
    refine v_callV (pc' := 35) (rt := (some .int)) (mcc := 0) (msc := 0) (As := [.int (nI k)]) (st := [.int (nI ((330 * ((now + 1) % 9)) + k)), .ref rows]) F (fun l => c_X7_get G z0 l (k := k) hm hrows hnow (by omega)) gX7_change_X7_get rfl hv_X7_get (by decide) (by decide) hm rfl rfl rfl (Nat.le_of_ble_eq_true rfl) (by omega) (by omega) dX7_change_32 rfl (fun v1 h hqg => ?_)
    obtain ⟨rfl, rfl⟩ := hqg
    refine w_iast (pc' := 36) F hrows (by omega) (by omega) dX7_change_35 rfl (fun h2 a3 f4 => ?_)
    refine v_iinc (pc' := 39) (j := 0) (x := nI k) (v := nI (k + 1)) (L' := [(2, .int (nI (k + 1))), (1, .int (nI ((now + 1) % 9))), (0, .ref m)]) F dX7_change_36 rfl (nI_add k 1) (by decide) rfl rfl ?_
    refine v_goto (tgt := 12) F dX7_change_39 (by decide) ?_
    have fr5 : gfr [m, rows] h h2 := (gfr.mono f4 (by intro q9 z9 m9; apply z9; simp only [List.mem_cons, List.not_mem_nil, or_false] at m9 ⊢; omega))
    refine v_sub (L' := [(2, .int (nI (k + 1))), (1, .int (nI ((now + 1) % 9))), (0, .ref m)]) [0, 1, 2] rfl ?_
    have g6 := f4 _ _ (gnc (g_neA hm hrows) gn0) hm
    refine ih (k := k + 1) (R := upd R (330 * ((now + 1) % 9) + k) (R (330 * now + k))) g6 a3 (by omega) (fun hA RA a1 a2 a3 a4 a5 => hp hA RA a1 a2 (fun q hq => ?_) (fun i h1 h2 => ?_) (gfr.t fr5 a5))
    · rw [a3 q (by rcases hq with hq | hq | hq <;> omega), upd_ne (by rcases hq with hq | hq | hq <;> omega)]
    · by_cases ei : i = k
      · subst ei
        rw [a3 (330 * ((now + 1) % 9) + i) (by omega), upd_eq]
      · rw [a4 i (by omega) h2, upd_ne]
        have hm9 := Nat.div_add_mod (now + 1) 9
        omega
set_option maxHeartbeats 4000000 in
set_option maxRecDepth 100000 in
theorem c_X7_change (G : gG) (z0 : Nat) (l : Launch) {h : gH} {m rows asd now vals many way told oth lst text : Nat} {th fl rl kd ok st wm fed len spot fa fat num frm may : Int32} {R : Nat → Int32} {ud : Nat} (hm : h m = some (.inr (7, [.int th, .ref rows, .ref asd, .int (nI now), .int (nI ud), .ref vals, .ref many, .int fl, .int rl, .int kd, .int ok, .int st, .ref way, .int wm, .ref told, .ref oth, .ref lst, .ref text, .int fed, .int len, .int spot, .int fa, .int fat, .int num, .int frm, .int may]))) (hrows : h rows = some (oI G 2970 R)) (hnow : now < 9) (hud : ud ≤ 8) : gC G z0 l yX7_change wsX7_change 1 21 [.ref m] h (fun o h' => o = none ∧ ∃ R' : Nat → Int32, h' m = some (.inr (7, [.int th, .ref rows, .ref asd, .int (nI ((now + 1) % 9)), .int (nI (min 8 (ud + 1))), .ref vals, .ref many, .int fl, .int rl, .int kd, .int ok, .int st, .ref way, .int wm, .ref told, .ref oth, .ref lst, .ref text, .int fed, .int len, .int spot, .int fa, .int fat, .int num, .int frm, .int may])) ∧ h' rows = some (oI G 2970 R') ∧ (∀ q, (q < 330 * ((now + 1) % 9) ∨ 330 * ((now + 1) % 9) + 330 ≤ q) → R' q = R q) ∧ (∀ i, i < 330 → R' (330 * ((now + 1) % 9) + i) = R (330 * now + i)) ∧ gfr [m, rows] h h') 0 0 := by
  refine gC_of (cc := cX7_change) (nL := 3) (ret := none) (by decide) rfl (Nat.le_of_ble_eq_true rfl) ?_
  intro X F E _
  change gF G z0 X cX7_change 3 RX7 wsX7_change none "change" 1 21 _ _ at F
  show gV G z0 X 0 0 h 0 [(0, .ref m)] []
  refine v_aload_n (pc' := 1) F dX7_change_0 rfl (j := 0) rfl rfl ?_
  refine v_getf (pc' := 4) (v := .int (nI now)) F k_X7_change_7 hm 3 (by decide) m_X7_change_f47 rfl dX7_change_1 rfl ?_
  refine v_iconst (pc' := 5) (v := nI 1) F dX7_change_4 (by decide) rfl ?_
  refine v_iadd (pc' := 6) (v := nI (now + 1)) F dX7_change_5 (nI_add now 1) rfl ?_
  refine v_bipush (pc' := 8) (v := nI 9) F dX7_change_6 (by decide) rfl ?_
  refine v_irem (pc' := 9) (v := nI ((now + 1) % 9)) F dX7_change_8 (nI_ne0 (by omega) (by omega)) (pk_rem (by omega) (by omega) (by omega)) rfl ?_
  refine v_istore_n (pc' := 10) (i := 1) (L' := [(1, .int (nI ((now + 1) % 9))), (0, .ref m)]) F dX7_change_9 rfl (by decide) rfl rfl ?_
  refine v_iconst (pc' := 11) (v := nI 0) F dX7_change_10 (by decide) rfl ?_
  refine v_istore_n (pc' := 12) (i := 2) (L' := [(2, .int (nI 0)), (1, .int (nI ((now + 1) % 9))), (0, .ref m)]) F dX7_change_11 rfl (by decide) rfl rfl ?_
  refine v_sub (L' := [(2, .int (nI 0)), (1, .int (nI ((now + 1) % 9))), (0, .ref m)]) [0, 1, 2] rfl ?_
  exact lp_X7_change (l := l) (k := 0) (j := 330) F E (by omega) (by omega) hm hrows hnow hud (by omega) (fun hA RA a1 a2 a3 a4 a5 => ⟨rfl, RA, a1, a2, fun q hq => a3 q (by omega), fun i hi => a4 i (by omega) hi, a5⟩)
