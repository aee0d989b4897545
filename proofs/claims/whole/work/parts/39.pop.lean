/-! READING A POP, AND A WHOLE TEXT -/
theorem dPops_n : ∀ (k v : Nat) (D : Dt), (dPops k v D).1 = D.1 + k
  | 0, _, _ => rfl
  | k + 1, v, D => by
    show (dPops k D.1 (dAdd D v (-1))).1 = D.1 + (k + 1)
    rw [dPops_n k D.1 (dAdd D v (-1))]
    show D.1 + 1 + k = D.1 + (k + 1)
    omega
theorem wVals_pop {o : Nat} {os : List mO} : wVals ((-1, o) :: os) = (wVals os).tail := by
  show (if (-1 : Int32) = -1 then (wVals os).tail else _) = _
  rw [if_pos rfl]
theorem dAdd_os (D : Dt) (v : Nat) (x : Int32) : (dAdd D v x).2.2.2.2 D.1 = (x, D.2.1) :: D.2.2.2.2 v := by
  show va_up D.2.2.2.2 D.1 _ D.1 = _
  unfold va_up
  rw [if_pos rfl]
theorem k_X3_readPop_3 : gCl wsX3_readPop 3 RX3 TX3 10 := ⟨by decide +kernel, rfl⟩
theorem m_X3_readPop_f22 : Cond.fieldLink RX3 22 "SteadyQueues$SetupReader" "book" "LSteadyQueues$Book;" ∈ wsX3_readPop := by decide +kernel
set_option maxHeartbeats 4000000 in
set_option maxRecDepth 100000 in
theorem lp_X3_readPop {G : gG} {z0 : Nat} {X : gX} {l : Launch} {post : Option Value → gH → Prop} {mc ms cells slots m i v s pp root : Nat} {h : gH} {rd buf len b : Nat} {er off : Int32} {t : Nat → Nat} {f : Nat → Int32} {va : Nat} {D : Dt} {ad : Nat → Nat} {as : Nat → List Nat} (F : gF G z0 X cX3_readPop 4 RX3 wsX3_readPop (some .boolean) "readPop" 7 147 mc ms) (E : gE G z0 X post mc ms) (hlen : len ≤ 500) (ht : ∀ j, j < len → f j = sb_b (t j) ∧ t j < 256) (hpp : pp ≤ 64) (hv : v < D.1) (hbuf : h buf = some (oB G 500 f)) (hT : tkn h rd buf b len t off er 0 s) (w : wfD D) (c : clD G h b va D ad as) (hroot : ad 0 = root) (him : i + m = pp) (hnm : D.1 + m ≤ 64) (hw9 : m ≤ (wVals (D.2.2.2.2 v)).length) (hcc : cells + 11 * m ≤ mc) (hss : slots + 33 * m ≤ ms) (hp : ∀ v9 h9, stQ G rd buf b va len t off er root (.inr (nxT t len s, dPops m v D)) h v9 h9 → post v9 h9) : gV G z0 X cells slots h 100 [(3, .int (nI i)), (2, .int (nI pp)), (1, .int (nI v)), (0, .ref rd)] [] := by
  induction m generalizing i v D ad as h cells slots with
  | zero =>
    obtain ⟨hbs, nus, hls, h2s, hr⟩ := hT
    obtain ⟨hb, fv, hva, hfv⟩ := id c.1
    have hmay : (0 : Nat) ≤ 1 := by omega
    refine v_iload_n (pc' := 101) F dX3_readPop_100 rfl (j := 0) rfl rfl ?_
    refine v_iload_n (pc' := 102) F dX3_readPop_101 rfl (j := 1) rfl rfl ?_
    refine w_icmp_ge (tgt := 120) (pc' := 105) F (by omega) (by omega) dX3_readPop_102 (by decide) rfl (fun _ => ?_) (fun c0 => absurd c0 (by omega))
    refine v_aload_n (pc' := 121) F dX3_readPop_120 rfl (j := 3) rfl rfl ?_
    refine v_callV (pc' := 124) (rt := none) (mcc := 0) (msc := 0) (As := []) (st := []) F (fun l => c_X3_readToken G z0 l hlen (by omega) hbuf ht hr (enT_b t hbs).2) gX3_readPop_X3_readToken rfl hv_X3_readToken (by decide) (by decide) hr rfl rfl rfl (Nat.le_of_ble_eq_true rfl) (by omega) (by omega) dX3_readPop_121 rfl (fun v2 h1 hq => ?_)
    obtain ⟨rfl, hrs1, frs1⟩ := hq
    obtain ⟨s1, es1⟩ : ∃ s9, s9 = nxT t len s := ⟨_, rfl⟩
    have hbs1 : s1 ≤ len := by rw [es1]; exact (sk_b t (enT_b t hbs).2).2
    have hks1 := kdT_b t len s1
    obtain ⟨nus1, hns1⟩ : ∃ u9, u9 = nuT t len s1 nus := ⟨_, rfl⟩
    have hls1 : nus1 ≤ 1000 := by rw [hns1]; exact nuT_b t len s1 hls
    have h2s1 : kdT t len s1 = 2 → nus1 = min 1000 (vl t len s1) := fun z => by rw [hns1]; exact kd2 z
    have hxs1 : h1 rd = some (.inr (3, [.int off, .ref buf, .int (nI len), .ref b, .int er, .int (nI (enT t len s1)), .int (nI s1), .int (nI (kdT t len s1)), .int (nI nus1), .int (nI 0)])) := by rw [hns1, es1]; exact hrs1
    refine v_iconst (pc' := 125) (v := nI 1) F dX3_readPop_124 (by decide) rfl ?_
    refine v_zret F E (by omega) (by omega) (by decide) dX3_readPop_125 ?_
    exact hp _ _ ⟨gfr.mono frs1 (by intro q9 z9 m9; apply z9; simp only [List.mem_cons, List.not_mem_nil, or_false] at m9 ⊢; omega), D, ad, as, w, c.fr hr frs1, hroot, rfl, rfl, rfl, by show tkn _ _ _ _ _ _ _ _ _ (nxT t len s); rw [← es1]; exact ⟨hbs1, nus1, hls1, h2s1, hxs1⟩⟩
  | succ m ih =>
    obtain ⟨hbs, nus, hls, h2s, hr⟩ := hT
    obtain ⟨hb, fv, hva, hfv⟩ := id c.1
    have wn := w.2.1
    have hO2 : wOk ((-1, D.2.1) :: D.2.2.2.2 v) := ⟨(w.os hv).1, w.2.2.1, w.2.2.2.1, fun _ z => (by rw [z] at hw9; simp at hw9), fun z => absurd rfl z⟩
    refine v_iload_n (pc' := 101) F dX3_readPop_100 rfl (j := 0) rfl rfl ?_
    refine v_iload_n (pc' := 102) F dX3_readPop_101 rfl (j := 1) rfl rfl ?_
    refine w_icmp_ge (tgt := 120) (pc' := 105) F (by omega) (by omega) dX3_readPop_102 (by decide) rfl (fun c0 => absurd c0 (by omega)) (fun _ => ?_)
    refine v_aload_n (pc' := 106) F dX3_readPop_105 rfl (j := 3) rfl rfl ?_
    refine v_getf (pc' := 109) (v := .ref b) F k_X3_readPop_3 hr 3 (by decide) m_X3_readPop_f22 rfl dX3_readPop_106 rfl ?_
    refine v_iload_n (pc' := 110) F dX3_readPop_109 rfl (j := 2) rfl rfl ?_
    refine v_callV (pc' := 113) (rt := (some .int)) (mcc := 11) (msc := 33) (As := [.int (nI v)]) (st := []) F (fun l => c_X0_makeByPop G z0 l (by omega) c.1 hv (c.2.1 v hv).x hO2 (w.os hv).2 w.2.2.2.1) gX3_readPop_X0_makeByPop rfl hv_X0_makeByPop (by decide) (by decide) hb rfl rfl rfl (Nat.le_of_ble_eq_true rfl) (by omega) (by omega) dX3_readPop_110 rfl (fun v2 h1 hq => ?_)
    obtain ⟨rfl, w9, hw9n, hB4, hV4, hf4⟩ := hq
    have pv4 := gfr.pvB hb hva hf4
    have c4 := clD.add w c hv hw9n hB4 hV4 pv4
    have w4 := w.add (by omega) hv hO2
    obtain ⟨hb4, f4, hva4, hfv4⟩ := id hB4
    refine v_istore_n (pc' := 114) (i := 1) (L' := [(1, .int (nI D.1)), (3, .int (nI i)), (2, .int (nI pp)), (0, .ref rd)]) F dX3_readPop_113 rfl (by decide) rfl rfl ?_
    refine v_iinc (pc' := 117) (j := 1) (x := nI i) (v := nI (i + 1)) (L' := [(3, .int (nI (i + 1))), (1, .int (nI D.1)), (2, .int (nI pp)), (0, .ref rd)]) F dX3_readPop_114 rfl (nI_add i 1) (by decide) rfl rfl ?_
    refine v_goto (tgt := 100) F dX3_readPop_117 (by decide) ?_
    refine v_sub (L' := [(3, .int (nI (i + 1))), (2, .int (nI pp)), (1, .int (nI D.1)), (0, .ref rd)]) [0, 2, 1, 3] rfl ?_
    have fr3 : gfr [rd, b, va] h h1 := (gfr.mono hf4 (by intro q9 z9 m9; apply z9; simp only [List.mem_cons, List.not_mem_nil, or_false] at m9 ⊢; omega))
    have g4 := hf4 _ _ (gnc (Ne.symm (g_neA hb hbuf)) (gnc (g_neL hbuf hva (by decide)) gn0)) hbuf
    have g5 := hf4 _ _ (gnc (g_neC hr hb (by decide)) (gnc (g_neA hr hva) gn0)) hr
    exact ih (i := i + 1) (v := D.1) (D := dAdd D v (-1)) (by show D.1 < D.1 + 1; omega) g4 ⟨hbs, nus, hls, h2s, g5⟩ w4 c4 (by show va_up ad D.1 w9 0 = root; unfold va_up; rw [if_neg (by have := w.1; omega)]; exact hroot) (by omega) (by show D.1 + 1 + m ≤ 64; omega) (by rw [dAdd_os, wVals_pop, List.length_tail]; omega) (by omega) (by omega) (fun v9 h9 q9 => hp v9 h9 (q9.trans fr3))
theorem m_X3_readPop_f41 : Cond.fieldLink RX3 41 "SteadyQueues$SetupReader" "paceMayCome" "Z" ∈ wsX3_readPop := by decide +kernel
theorem k_X3_readPop_0 : gCl wsX3_readPop 0 RX0 TX0 4 := ⟨by decide +kernel, rfl⟩
theorem m_X3_readPop_f71 : Cond.fieldLink RX3 71 "SteadyQueues$Book" "count" "I" ∈ wsX3_readPop := by decide +kernel
theorem m_X3_readPop_f38 : Cond.fieldLink RX3 38 "SteadyQueues$SetupReader" "number" "I" ∈ wsX3_readPop := by decide +kernel
theorem m_X3_readPop_f83 : Cond.fieldLink RX3 83 "SteadyQueues$Book" "versions" "[LSteadyQueues$Version;" ∈ wsX3_readPop := by decide +kernel
set_option maxHeartbeats 4000000 in
set_option maxRecDepth 100000 in
theorem c_X3_readPop (G : gG) (z0 : Nat) (l : Launch) {h : gH} {rd buf len b may : Nat} {er off : Int32} {t : Nat → Nat} {f : Nat → Int32} {s : Nat} {va : Nat} {D : Dt} {ad : Nat → Nat} {as : Nat → List Nat} (hlen : len ≤ 500) (hmay : may ≤ 1) (hbuf : h buf = some (oB G 500 f)) (ht : ∀ j, j < len → f j = sb_b (t j) ∧ t j < 256) (hT : tkn h rd buf b len t off er may s) (w : wfD D) (c : clD G h b va D ad as) : gC G z0 l yX3_readPop wsX3_readPop 7 147 [.ref rd] h (stQ G rd buf b va len t off er (ad 0) (pPop t len s D) h) (11 * (prN (pPop t len s D) - D.1)) (33 * (prN (pPop t len s D) - D.1)) := by
  obtain ⟨hbs, nus, hls, h2s, hr⟩ := hT
  obtain ⟨hb, fv, hva, hfv⟩ := id c.1
  have wn := w.2.1
  have wn1 := w.1
  unfold pPop
  refine gC_of (cc := cX3_readPop) (nL := 4) (ret := (some .boolean)) (by decide) rfl (Nat.le_of_ble_eq_true rfl) ?_
  intro X F E _
  change gF G z0 X cX3_readPop 4 RX3 wsX3_readPop (some .boolean) "readPop" 7 147 _ _ at F
  show gV G z0 X 0 0 h 0 [(0, .ref rd)] []
  refine v_aload_n (pc' := 1) F dX3_readPop_0 rfl (j := 0) rfl rfl ?_
  refine v_iconst (pc' := 2) (v := nI 0) F dX3_readPop_1 (by decide) rfl ?_
  refine w_putf (pc' := 5) F k_X3_readPop_3 tyX3_ok nmX3 hr 9 (by decide) m_X3_readPop_f41 rfl  (by decide) rfl (show 9 < 10 by decide) [.int off, .ref buf, .int (nI len), .ref b, .int er, .int (nI (enT t len s)), .int (nI s), .int (nI (kdT t len s)), .int (nI nus), .int (nI 0)] rfl dX3_readPop_2 rfl (fun h1 a2 f3 => ?_)
  refine v_aload_n (pc' := 6) F dX3_readPop_5 rfl (j := 0) rfl rfl ?_
  have g4 := f3 _ _ (gnc (Ne.symm (g_neA hr hbuf)) gn0) hbuf
  refine v_callV (pc' := 9) (rt := none) (mcc := 0) (msc := 0) (As := []) (st := []) F (fun l => c_X3_readToken G z0 l hlen (by omega) g4 ht a2 (enT_b t hbs).2) gX3_readPop_X3_readToken rfl hv_X3_readToken (by decide) (by decide) a2 rfl rfl rfl (Nat.le_of_ble_eq_true rfl) (by omega) (by omega) dX3_readPop_6 rfl (fun v6 h5 hq => ?_)
  obtain ⟨rfl, hrs1, frs1⟩ := hq
  obtain ⟨s1, es1⟩ : ∃ s9, s9 = nxT t len s := ⟨_, rfl⟩
  have hbs1 : s1 ≤ len := by rw [es1]; exact (sk_b t (enT_b t hbs).2).2
  have hks1 := kdT_b t len s1
  obtain ⟨nus1, hns1⟩ : ∃ u9, u9 = nuT t len s1 nus := ⟨_, rfl⟩
  have hls1 : nus1 ≤ 1000 := by rw [hns1]; exact nuT_b t len s1 hls
  have h2s1 : kdT t len s1 = 2 → nus1 = min 1000 (vl t len s1) := fun z => by rw [hns1]; exact kd2 z
  have hxs1 : h5 rd = some (.inr (3, [.int off, .ref buf, .int (nI len), .ref b, .int er, .int (nI (enT t len s1)), .int (nI s1), .int (nI (kdT t len s1)), .int (nI nus1), .int (nI 0)])) := by rw [hns1, es1]; exact hrs1
  refine v_aload_n (pc' := 10) F dX3_readPop_9 rfl (j := 0) rfl rfl ?_
  refine v_iconst (pc' := 11) (v := nI 0) F dX3_readPop_10 (by decide) rfl ?_
  refine v_aload_n (pc' := 12) F dX3_readPop_11 rfl (j := 0) rfl rfl ?_
  refine v_getf (pc' := 15) (v := .ref b) F k_X3_readPop_3 hxs1 3 (by decide) m_X3_readPop_f22 rfl dX3_readPop_12 rfl ?_
  have g7 := f3 _ _ (gnc (g_neC hb hr (by decide)) gn0) hb
  have g8 := frs1 _ _ (gnc (g_neC g7 a2 (by decide)) gn0) g7
  refine v_getf (pc' := 18) (v := .int (nI D.1)) F k_X3_readPop_0 g8 1 (by decide) m_X3_readPop_f71 rfl dX3_readPop_15 rfl ?_
  refine v_iconst (pc' := 19) (v := nI 1) F dX3_readPop_18 (by decide) rfl ?_
  refine v_isub (pc' := 20) (v := nI (D.1 - 1)) F dX3_readPop_19 (g_subn (by omega) (by omega)) rfl ?_
  refine v_callV (pc' := 23) (rt := (some .boolean)) (mcc := 0) (msc := 0) (As := [.int (nI 0), .int (nI (D.1 - 1))]) (st := []) F (fun l => c_X3_seeNumber G z0 l hxs1 (by omega) hls1 (by omega) (by omega)) gX3_readPop_X3_seeNumber rfl hv_X3_seeNumber (by decide) (by decide) hxs1 rfl rfl rfl (Nat.le_of_ble_eq_true rfl) (by omega) (by omega) dX3_readPop_20 rfl (fun v10 h9 hq => ?_)
  rcases hq with ⟨k2s1, los1, his1, rfl, ehs1⟩ | ⟨k2s1, rfl, hqs1, fqs1⟩ | ⟨k2s1, r2s1, rfl, hqs1, fqs1⟩
  · replace ehs1 := ehs1.symm
    subst ehs1
    obtain ⟨eps1, evs1⟩ := pNum_ok (n := D.1) (lo := 0) (hi := (D.1 - 1)) (by omega) k2s1 (h2s1 k2s1) los1 his1
    refine w_if_ne (tgt := 28) (pc' := 26) F (by omega) dX3_readPop_23 (by decide) rfl (fun _ => ?_) (fun c0 => absurd c0 (by omega))
    refine v_aload_n (pc' := 29) F dX3_readPop_28 rfl (j := 0) rfl rfl ?_
    refine v_getf (pc' := 32) (v := .int (nI nus1)) F k_X3_readPop_3 hxs1 8 (by decide) m_X3_readPop_f38 rfl dX3_readPop_29 rfl ?_
    refine v_istore_n (pc' := 33) (i := 1) (L' := [(1, .int (nI nus1)), (0, .ref rd)]) F dX3_readPop_32 rfl (by decide) rfl rfl ?_
    refine v_aload_n (pc' := 34) F dX3_readPop_33 rfl (j := 1) rfl rfl ?_
    have g11 := frs1 _ _ (gnc (Ne.symm (g_neA a2 g4)) gn0) g4
    refine v_callV (pc' := 37) (rt := none) (mcc := 0) (msc := 0) (As := []) (st := []) F (fun l => c_X3_readToken G z0 l hlen (by omega) g11 ht hxs1 (enT_b t hbs1).2) gX3_readPop_X3_readToken rfl hv_X3_readToken (by decide) (by decide) hxs1 rfl rfl rfl (Nat.le_of_ble_eq_true rfl) (by omega) (by omega) dX3_readPop_34 rfl (fun v13 h12 hq => ?_)
    obtain ⟨rfl, hrs2, frs2⟩ := hq
    obtain ⟨s2, es2⟩ : ∃ s9, s9 = nxT t len s1 := ⟨_, rfl⟩
    have hbs2 : s2 ≤ len := by rw [es2]; exact (sk_b t (enT_b t hbs1).2).2
    have hks2 := kdT_b t len s2
    obtain ⟨nus2, hns2⟩ : ∃ u9, u9 = nuT t len s2 nus1 := ⟨_, rfl⟩
    have hls2 : nus2 ≤ 1000 := by rw [hns2]; exact nuT_b t len s2 hls1
    have h2s2 : kdT t len s2 = 2 → nus2 = min 1000 (vl t len s2) := fun z => by rw [hns2]; exact kd2 z
    have hxs2 : h12 rd = some (.inr (3, [.int off, .ref buf, .int (nI len), .ref b, .int er, .int (nI (enT t len s2)), .int (nI s2), .int (nI (kdT t len s2)), .int (nI nus2), .int (nI 0)])) := by rw [hns2, es2]; exact hrs2
    refine v_aload_n (pc' := 38) F dX3_readPop_37 rfl (j := 1) rfl rfl ?_
    refine v_iconst (pc' := 39) (v := nI 1) F dX3_readPop_38 (by decide) rfl ?_
    refine v_bipush (pc' := 41) (v := nI 64) F dX3_readPop_39 (by decide) rfl ?_
    refine v_callV (pc' := 44) (rt := (some .boolean)) (mcc := 0) (msc := 0) (As := [.int (nI 1), .int (nI 64)]) (st := []) F (fun l => c_X3_seeNumber G z0 l hxs2 (by omega) hls2 (by omega) (by omega)) gX3_readPop_X3_seeNumber rfl hv_X3_seeNumber (by decide) (by decide) hxs2 rfl rfl rfl (Nat.le_of_ble_eq_true rfl) (by omega) (by omega) dX3_readPop_41 rfl (fun v15 h14 hq => ?_)
    rcases hq with ⟨k2s2, los2, his2, rfl, ehs2⟩ | ⟨k2s2, rfl, hqs2, fqs2⟩ | ⟨k2s2, r2s2, rfl, hqs2, fqs2⟩
    · replace ehs2 := ehs2.symm
      subst ehs2
      obtain ⟨eps2, evs2⟩ := pNum_ok (n := D.1) (lo := 1) (hi := 64) (by omega) k2s2 (h2s2 k2s2) los2 his2
      have hv1 : nus1 < D.1 := by omega
      refine w_if_ne (tgt := 49) (pc' := 47) F (by omega) dX3_readPop_44 (by decide) rfl (fun _ => ?_) (fun c0 => absurd c0 (by omega))
      refine v_aload_n (pc' := 50) F dX3_readPop_49 rfl (j := 1) rfl rfl ?_
      refine v_getf (pc' := 53) (v := .int (nI nus2)) F k_X3_readPop_3 hxs2 8 (by decide) m_X3_readPop_f38 rfl dX3_readPop_50 rfl ?_
      refine v_istore_n (pc' := 54) (i := 2) (L' := [(2, .int (nI nus2)), (1, .int (nI nus1)), (0, .ref rd)]) F dX3_readPop_53 rfl (by decide) rfl rfl ?_
      refine v_aload_n (pc' := 55) F dX3_readPop_54 rfl (j := 2) rfl rfl ?_
      refine v_getf (pc' := 58) (v := .ref b) F k_X3_readPop_3 hxs2 3 (by decide) m_X3_readPop_f22 rfl dX3_readPop_55 rfl ?_
      have g16 := frs2 _ _ (gnc (g_neC g8 hxs1 (by decide)) gn0) g8
      refine v_getf (pc' := 61) (v := .int (nI D.1)) F k_X3_readPop_0 g16 1 (by decide) m_X3_readPop_f71 rfl dX3_readPop_58 rfl ?_
      refine v_iload_n (pc' := 62) F dX3_readPop_61 rfl (j := 0) rfl rfl ?_
      refine v_iadd (pc' := 63) (v := nI (D.1 + nus2)) F dX3_readPop_62 (nI_add D.1 nus2) rfl ?_
      refine v_bipush (pc' := 65) (v := nI 64) F dX3_readPop_63 (by decide) rfl ?_
      refine w_icmp_le (tgt := 75) (pc' := 68) F (by omega) (by omega) dX3_readPop_65 (by decide) rfl (fun c4 => ?_) (fun c4 => ?_)
      · obtain ⟨fsv, hkv⟩ := c.kind hv1
        have fr17 : gfr [rd] h h12 := (gfr.t f3 (gfr.t frs1 frs2))
        have cN := c.fr hr fr17
        obtain ⟨fsN, hkN⟩ := cN.kind hv1
        have hfl := qOf_fl (w.os hv1).1
        have hlv := wVals_le (D.2.2.2.2 nus1)
        have hos := (w.os hv1).2
        refine v_iload_n (pc' := 76) F dX3_readPop_75 rfl (j := 0) rfl rfl ?_
        refine v_aload_n (pc' := 77) F dX3_readPop_76 rfl (j := 2) rfl rfl ?_
        refine v_getf (pc' := 80) (v := .ref b) F k_X3_readPop_3 hxs2 3 (by decide) m_X3_readPop_f22 rfl dX3_readPop_77 rfl ?_
        refine v_getf (pc' := 83) (v := .ref va) F k_X3_readPop_0 g16 0 (by decide) m_X3_readPop_f83 rfl dX3_readPop_80 rfl ?_
        refine v_iload_n (pc' := 84) F dX3_readPop_83 rfl (j := 1) rfl rfl ?_
        have g18 := f3 _ _ (gnc (Ne.symm (g_neA hr hva)) gn0) hva
        have g19 := frs1 _ _ (gnc (Ne.symm (g_neA a2 g18)) gn0) g18
        have g20 := frs2 _ _ (gnc (Ne.symm (g_neA hxs1 g19)) gn0) g19
        refine w_vald (pc' := 85) (v := some (ad nus1)) F g20 (by omega) (by omega) (hfv nus1 hv1) dX3_readPop_84 rfl ?_
        refine v_callV (pc' := 88) (rt := (some .int)) (mcc := 0) (msc := 0) (As := []) (st := [.int (nI nus2)]) F (fun l => c_X5_length G z0 l ((cN.2.1 nus1 hv1).x).choose_spec) gX3_readPop_X5_length rfl hv_X5_length (by decide) (by decide) hkN rfl rfl rfl (Nat.le_of_ble_eq_true rfl) (by omega) (by omega) dX3_readPop_85 rfl (fun v21 h12 hq => ?_)
        rw [hfl.1] at hq; obtain ⟨rfl, rfl⟩ := hq
        refine w_icmp_le (tgt := 98) (pc' := 91) F (by omega) (by omega) dX3_readPop_88 (by decide) rfl (fun c5 => ?_) (fun c5 => ?_)
        · refine v_iconst (pc' := 99) (v := nI 0) F dX3_readPop_98 (by decide) rfl ?_
          refine v_istore_n (pc' := 100) (i := 3) (L' := [(3, .int (nI 0)), (2, .int (nI nus2)), (1, .int (nI nus1)), (0, .ref rd)]) F dX3_readPop_99 rfl (by decide) rfl rfl ?_
          refine v_sub (L' := [(3, .int (nI 0)), (2, .int (nI nus2)), (1, .int (nI nus1)), (0, .ref rd)]) [0, 1, 2, 3] rfl ?_
          have fr22 : gfr [rd] h h12 := (gfr.t f3 (gfr.t frs1 frs2))
          rw [← es1, eps1] at E F
          simp only at E F
          rw [← es2, eps2] at E F
          simp only at E F
          rw [← evs2, ← evs1, if_neg (show ¬ 64 < D.1 + nus2 by omega), if_neg (by omega)] at E F
          have hdn := dPops_n nus2 nus1 D
          have g23 := frs2 _ _ (gnc (Ne.symm (g_neA hxs1 g11)) gn0) g11
          exact lp_X3_readPop (l := l) (m := nus2) F E hlen ht (by omega) hv1 g23 ⟨hbs2, nus2, hls2, h2s2, hxs2⟩ w cN rfl (by omega) (by omega) (by omega) (by show _ ≤ 11 * ((dPops nus2 nus1 D).1 - D.1); omega) (by show _ ≤ 33 * ((dPops nus2 nus1 D).1 - D.1); omega) (fun v9 h9 q9 => q9.trans (gfr.mono fr22 (by intro q9 z9 m9; apply z9; simp only [List.mem_cons, List.not_mem_nil, or_false] at m9 ⊢; omega)))
        · refine v_aload_n (pc' := 92) F dX3_readPop_91 rfl (j := 2) rfl rfl ?_
          refine v_bipush (pc' := 94) (v := (-5)) F dX3_readPop_92 (by decide) rfl ?_
          refine v_callV (pc' := 97) (rt := (some .boolean)) (mcc := 0) (msc := 0) (As := [.int (-5)]) (st := []) F (fun l => c_X3_fail G z0 l (-5) hxs2) gX3_readPop_X3_fail rfl hv_X3_fail (by decide) (by decide) hxs2 rfl rfl rfl (Nat.le_of_ble_eq_true rfl) (by omega) (by omega) dX3_readPop_94 rfl (fun v25 h24 hq => ?_)
          obtain ⟨rfl, hq2, fq2⟩ := hq
          have fr26 : gfr [rd] h h24 := (gfr.t f3 (gfr.t frs1 (gfr.t frs2 fq2)))
          refine v_zret F E (by omega) (by omega) (by decide) dX3_readPop_97 ?_
          refine ⟨gfr.mono fr26 (by intro q9 z9 m9; apply z9; simp only [List.mem_cons, List.not_mem_nil, or_false] at m9 ⊢; omega), D, ad, as, w, c.fr hr fr26, rfl, ?_⟩
          rw [← es1, eps1]
          simp only
          rw [← es2, eps2]
          simp only
          rw [← evs2, ← evs1, if_neg (show ¬ 64 < D.1 + nus2 by omega), if_pos (by omega)]
          exact ⟨by first | rfl | trivial, by first | rfl | trivial, (show (-5 : Int32) ≠ 0 by decide), hbs2, _, _, _, _, _, by omega, hq2⟩
      · refine v_aload_n (pc' := 69) F dX3_readPop_68 rfl (j := 2) rfl rfl ?_
        refine v_bipush (pc' := 71) (v := (-4)) F dX3_readPop_69 (by decide) rfl ?_
        refine v_callV (pc' := 74) (rt := (some .boolean)) (mcc := 0) (msc := 0) (As := [.int (-4)]) (st := []) F (fun l => c_X3_fail G z0 l (-4) hxs2) gX3_readPop_X3_fail rfl hv_X3_fail (by decide) (by decide) hxs2 rfl rfl rfl (Nat.le_of_ble_eq_true rfl) (by omega) (by omega) dX3_readPop_71 rfl (fun v28 h27 hq => ?_)
        obtain ⟨rfl, hq2, fq2⟩ := hq
        have fr29 : gfr [rd] h h27 := (gfr.t f3 (gfr.t frs1 (gfr.t frs2 fq2)))
        refine v_zret F E (by omega) (by omega) (by decide) dX3_readPop_74 ?_
        refine ⟨gfr.mono fr29 (by intro q9 z9 m9; apply z9; simp only [List.mem_cons, List.not_mem_nil, or_false] at m9 ⊢; omega), D, ad, as, w, c.fr hr fr29, rfl, ?_⟩
        rw [← es1, eps1]
        simp only
        rw [← es2, eps2]
        simp only
        rw [← evs2, ← evs1, if_pos (by omega)]
        exact ⟨by first | rfl | trivial, by first | rfl | trivial, (show (-4 : Int32) ≠ 0 by decide), hbs2, _, _, _, _, _, by omega, hq2⟩
    · refine w_if_ne (tgt := 49) (pc' := 47) F (by omega) dX3_readPop_44 (by decide) rfl (fun c0 => absurd c0 (by omega)) (fun _ => ?_)
      refine v_iconst (pc' := 48) (v := nI 0) F dX3_readPop_47 (by decide) rfl ?_
      have fr30 : gfr [rd] h h14 := (gfr.t f3 (gfr.t frs1 (gfr.t frs2 fqs2)))
      refine v_zret F E (by omega) (by omega) (by decide) dX3_readPop_48 ?_
      refine ⟨gfr.mono fr30 (by intro q9 z9 m9; apply z9; simp only [List.mem_cons, List.not_mem_nil, or_false] at m9 ⊢; omega), D, ad, as, w, c.fr hr fr30, rfl, ?_⟩
      rw [← es1, eps1]
      simp only
      rw [← es2, pNum_k (n := D.1) (lo := 1) (hi := 64) k2s2]
      exact ⟨by first | rfl | trivial, by first | rfl | trivial, (show ((-2) : Int32) ≠ 0 by decide), hbs2, _, _, _, _, _, by omega, hqs2⟩
    · refine w_if_ne (tgt := 49) (pc' := 47) F (by omega) dX3_readPop_44 (by decide) rfl (fun c0 => absurd c0 (by omega)) (fun _ => ?_)
      refine v_iconst (pc' := 48) (v := nI 0) F dX3_readPop_47 (by decide) rfl ?_
      have fr31 : gfr [rd] h h14 := (gfr.t f3 (gfr.t frs1 (gfr.t frs2 fqs2)))
      refine v_zret F E (by omega) (by omega) (by decide) dX3_readPop_48 ?_
      refine ⟨gfr.mono fr31 (by intro q9 z9 m9; apply z9; simp only [List.mem_cons, List.not_mem_nil, or_false] at m9 ⊢; omega), D, ad, as, w, c.fr hr fr31, rfl, ?_⟩
      rw [← es1, eps1]
      simp only
      rw [← es2, pNum_r (n := D.1) (by omega) k2s2 (h2s2 k2s2) r2s2 (by omega)]
      exact ⟨by first | rfl | trivial, by first | rfl | trivial, (show ((-3) : Int32) ≠ 0 by decide), hbs2, _, _, _, _, _, by omega, hqs2⟩
  · refine w_if_ne (tgt := 28) (pc' := 26) F (by omega) dX3_readPop_23 (by decide) rfl (fun c0 => absurd c0 (by omega)) (fun _ => ?_)
    refine v_iconst (pc' := 27) (v := nI 0) F dX3_readPop_26 (by decide) rfl ?_
    have fr32 : gfr [rd] h h9 := (gfr.t f3 (gfr.t frs1 fqs1))
    refine v_zret F E (by omega) (by omega) (by decide) dX3_readPop_27 ?_
    refine ⟨gfr.mono fr32 (by intro q9 z9 m9; apply z9; simp only [List.mem_cons, List.not_mem_nil, or_false] at m9 ⊢; omega), D, ad, as, w, c.fr hr fr32, rfl, ?_⟩
    rw [← es1, pNum_k (n := D.1) (lo := 0) (hi := (D.1 - 1)) k2s1]
    exact ⟨by first | rfl | trivial, by first | rfl | trivial, (show ((-2) : Int32) ≠ 0 by decide), hbs1, _, _, _, _, _, by omega, hqs1⟩
  · refine w_if_ne (tgt := 28) (pc' := 26) F (by omega) dX3_readPop_23 (by decide) rfl (fun c0 => absurd c0 (by omega)) (fun _ => ?_)
    refine v_iconst (pc' := 27) (v := nI 0) F dX3_readPop_26 (by decide) rfl ?_
    have fr33 : gfr [rd] h h9 := (gfr.t f3 (gfr.t frs1 fqs1))
    refine v_zret F E (by omega) (by omega) (by decide) dX3_readPop_27 ?_
    refine ⟨gfr.mono fr33 (by intro q9 z9 m9; apply z9; simp only [List.mem_cons, List.not_mem_nil, or_false] at m9 ⊢; omega), D, ad, as, w, c.fr hr fr33, rfl, ?_⟩
    rw [← es1, pNum_r (n := D.1) (by omega) k2s1 (h2s1 k2s1) r2s1 (by omega)]
    exact ⟨by first | rfl | trivial, by first | rfl | trivial, (show ((-3) : Int32) ≠ 0 by decide), hbs1, _, _, _, _, _, by omega, hqs1⟩
