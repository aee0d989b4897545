/-! THE READER READS WHAT A TEXT MAKES -/
theorem wkd_n (t : Nat → Nat) (s e : Nat) : wkd t s e ≠ 0 ∧ wkd t s e ≠ 2 ∧ wkd t s e ≠ 3 := by
  unfold wkd
  repeat' split
  all_goals omega
theorem kd2 {t : Nat → Nat} {len s nu : Nat} (h : kdT t len s = 2) : nuT t len s nu = min 1000 (vl t len s) := by
  have hw := wkd_n t s (eL t (len - s) s)
  unfold kdT at h
  unfold nuT vl
  split at h
  · omega
  · rename_i h1
    rw [if_neg h1]
    split at h
    · rename_i h2
      rw [if_pos h2]
    · split at h
      · omega
      · split at h <;> omega
def tkn (h : gH) (rd buf b len : Nat) (t : Nat → Nat) (off er : Int32) (may s : Nat) : Prop := s ≤ len ∧ ∃ nu : Nat, nu ≤ 1000 ∧ (kdT t len s = 2 → nu = min 1000 (vl t len s)) ∧ h rd = some (.inr (3, [.int off, .ref buf, .int (nI len), .ref b, .int er, .int (nI (enT t len s)), .int (nI s), .int (nI (kdT t len s)), .int (nI nu), .int (nI may)]))
/-- behind a statement -/
def stQ (G : gG) (rd buf b va len : Nat) (t : Nat → Nat) (off er : Int32) (root : Nat) (r : PR) (h : gH) (v : Option Value) (h' : gH) : Prop := gfr [rd, b, va] h h' ∧ ∃ (D' : Dt) (ad' : Nat → Nat) (as' : Nat → List Nat), wfD D' ∧ clD G h' b va D' ad' as' ∧ ad' 0 = root ∧ prN r = D'.1 ∧ match r with
  | .inl e => v = some (.int (nI 0)) ∧ e.1 ≠ 0 ∧ e.2.1 ≤ len ∧ ∃ may9 at9 st9 kd9 nu9 : Nat, nu9 ≤ 1000 ∧ h' rd = some (.inr (3, [.int (nI e.2.1), .ref buf, .int (nI len), .ref b, .int e.1, .int (nI at9), .int (nI st9), .int (nI kd9), .int (nI nu9), .int (nI may9)]))
  | .inr q => v = some (.int (nI 1)) ∧ q.2 = D' ∧ tkn h' rd buf b len t off er 0 q.1
theorem pNum_ok {t : Nat → Nat} {len s lo hi n nu : Nat} (hh : hi < 1000) (h : kdT t len s = 2) (e : nu = min 1000 (vl t len s)) (h1 : lo ≤ nu) (h2 : nu ≤ hi) : pNum t len s lo hi n = none ∧ nu = vl t len s := by
  unfold pNum
  rw [if_neg (fun z => z h), if_pos (by omega)]
  exact ⟨rfl, by omega⟩
theorem pNum_k {t : Nat → Nat} {len s lo hi n : Nat} (h : kdT t len s ≠ 2) : pNum t len s lo hi n = some (-2, s, n) := by
  unfold pNum
  rw [if_pos h]
theorem pNum_r {t : Nat → Nat} {len s lo hi n nu : Nat} (hh : hi < 1000) (h : kdT t len s = 2) (e : nu = min 1000 (vl t len s)) (h1 : ¬ (lo ≤ nu ∧ nu ≤ hi)) (hlo : lo ≤ 1000) : pNum t len s lo hi n = some (-3, s, n) := by
  unfold pNum
  rw [if_neg (fun z => z h), if_neg (by omega)]
theorem clD.pv {G : gG} {h h' : gH} {b va : Nat} {D : Dt} {ad : Nat → Nat} {as : Nat → List Nat} (f : gpv h h') (hB : isBk G h' b va D.1 D.2.1 D.2.2.1 ad) (c : clD G h b va D ad as) : clD G h' b va D ad as := ⟨hB, fun i hi => (c.2.1 i hi).pv f, c.2.2⟩
theorem clD.fr {G : gG} {h h' : gH} {b va rd : Nat} {rfs : List Value} {D : Dt} {ad : Nat → Nat} {as : Nat → List Nat} (hr : h rd = some (.inr (3, rfs))) (f : gfr [rd] h h') (c : clD G h b va D ad as) : clD G h' b va D ad as := by
  obtain ⟨hb, fv, hva, hfv⟩ := id c.1
  refine c.pv (gfr.pv f (by intro a9 m9 ci9 fs9 c9 z9; rw [List.mem_singleton.mp m9, hr] at z9; cases z9; omega)) ⟨f _ _ (gnc (g_neC hb hr (by decide)) gn0) hb, fv, f _ _ (gnc (Ne.symm (g_neA hr hva)) gn0) hva, hfv⟩
theorem k_X3_readPace_3 : gCl wsX3_readPace 3 RX3 TX3 10 := ⟨by decide +kernel, rfl⟩
theorem m_X3_readPace_f41 : Cond.fieldLink RX3 41 "SteadyQueues$SetupReader" "paceMayCome" "Z" ∈ wsX3_readPace := by decide +kernel
theorem hv_X3_seeNumber : yX3_seeNumber.cls = RX3 ∧ yX3_seeNumber.cls ≠ "java/lang/invoke/MethodHandle" ∧ yX3_seeNumber.cls ≠ "java/lang/invoke/VarHandle" ∧ (parseMethodDescriptor yX3_seeNumber.desc).map (fun d => d.parameters.length) = some 2 := by decide +kernel
theorem m_X3_readPace_f22 : Cond.fieldLink RX3 22 "SteadyQueues$SetupReader" "book" "LSteadyQueues$Book;" ∈ wsX3_readPace := by decide +kernel
theorem m_X3_readPace_f38 : Cond.fieldLink RX3 38 "SteadyQueues$SetupReader" "number" "I" ∈ wsX3_readPace := by decide +kernel
theorem k_X3_readPace_0 : gCl wsX3_readPace 0 RX0 TX0 4 := ⟨by decide +kernel, rfl⟩
theorem m_X3_readPace_f96 : Cond.fieldLink RX3 96 "SteadyQueues$Book" "pace" "I" ∈ wsX3_readPace := by decide +kernel
set_option maxHeartbeats 4000000 in
set_option maxRecDepth 100000 in
theorem c_X3_readPace (G : gG) (z0 : Nat) (l : Launch) {h : gH} {rd buf len b may : Nat} {er off : Int32} {t : Nat → Nat} {f : Nat → Int32} {s : Nat} {va : Nat} {D : Dt} {ad : Nat → Nat} {as : Nat → List Nat} (hlen : len ≤ 500) (hmay : may ≤ 1) (hbuf : h buf = some (oB G 500 f)) (ht : ∀ j, j < len → f j = sb_b (t j) ∧ t j < 256) (hT : tkn h rd buf b len t off er may s) (w : wfD D) (c : clD G h b va D ad as) : gC G z0 l yX3_readPace wsX3_readPace 7 147 [.ref rd] h (stQ G rd buf b va len t off er (ad 0) (pPace t len s D) h) 0 0 := by
  obtain ⟨hbs, nus, hls, h2s, hr⟩ := hT
  obtain ⟨hb, fv, hva, hfv⟩ := id c.1
  refine gC_of (cc := cX3_readPace) (nL := 1) (ret := (some .boolean)) (by decide) rfl (Nat.le_of_ble_eq_true rfl) ?_
  intro X F E _
  change gF G z0 X cX3_readPace 1 RX3 wsX3_readPace (some .boolean) "readPace" 7 147 _ _ at F
  show gV G z0 X 0 0 h 0 [(0, .ref rd)] []
  refine v_aload_n (pc' := 1) F dX3_readPace_0 rfl (j := 0) rfl rfl ?_
  refine v_iconst (pc' := 2) (v := nI 0) F dX3_readPace_1 (by decide) rfl ?_
  refine w_putf (pc' := 5) F k_X3_readPace_3 tyX3_ok nmX3 hr 9 (by decide) m_X3_readPace_f41 rfl  (by decide) rfl (show 9 < 10 by decide) [.int off, .ref buf, .int (nI len), .ref b, .int er, .int (nI (enT t len s)), .int (nI s), .int (nI (kdT t len s)), .int (nI nus), .int (nI 0)] rfl dX3_readPace_2 rfl (fun h1 a2 f3 => ?_)
  refine v_aload_n (pc' := 6) F dX3_readPace_5 rfl (j := 0) rfl rfl ?_
  have g4 := f3 _ _ (gnc (Ne.symm (g_neA hr hbuf)) gn0) hbuf
  refine v_callV (pc' := 9) (rt := none) (mcc := 0) (msc := 0) (As := []) (st := []) F (fun l => c_X3_readToken G z0 l hlen (by omega) g4 ht a2 (enT_b t hbs).2) gX3_readPace_X3_readToken rfl hv_X3_readToken (by decide) (by decide) a2 rfl rfl rfl (Nat.le_of_ble_eq_true rfl) (by omega) (by omega) dX3_readPace_6 rfl (fun v6 h5 hq => ?_)
  obtain ⟨rfl, hrs1, frs1⟩ := hq
  obtain ⟨s1, es1⟩ : ∃ s9, s9 = nxT t len s := ⟨_, rfl⟩
  have hbs1 : s1 ≤ len := by rw [es1]; exact (sk_b t (enT_b t hbs).2).2
  have hks1 := kdT_b t len s1
  obtain ⟨nus1, hns1⟩ : ∃ u9, u9 = nuT t len s1 nus := ⟨_, rfl⟩
  have hls1 : nus1 ≤ 1000 := by rw [hns1]; exact nuT_b t len s1 hls
  have h2s1 : kdT t len s1 = 2 → nus1 = min 1000 (vl t len s1) := fun z => by rw [hns1]; exact kd2 z
  have hxs1 : h5 rd = some (.inr (3, [.int off, .ref buf, .int (nI len), .ref b, .int er, .int (nI (enT t len s1)), .int (nI s1), .int (nI (kdT t len s1)), .int (nI nus1), .int (nI 0)])) := by rw [hns1, es1]; exact hrs1
  refine v_aload_n (pc' := 10) F dX3_readPace_9 rfl (j := 0) rfl rfl ?_
  refine v_iconst (pc' := 11) (v := nI 2) F dX3_readPace_10 (by decide) rfl ?_
  refine v_iconst (pc' := 12) (v := nI 4) F dX3_readPace_11 (by decide) rfl ?_
  refine v_callV (pc' := 15) (rt := (some .boolean)) (mcc := 0) (msc := 0) (As := [.int (nI 2), .int (nI 4)]) (st := []) F (fun l => c_X3_seeNumber G z0 l hxs1 (by omega) hls1 (by omega) (by omega)) gX3_readPace_X3_seeNumber rfl hv_X3_seeNumber (by decide) (by decide) hxs1 rfl rfl rfl (Nat.le_of_ble_eq_true rfl) (by omega) (by omega) dX3_readPace_12 rfl (fun v8 h7 hq => ?_)
  rcases hq with ⟨k2s1, los1, his1, rfl, ehs1⟩ | ⟨k2s1, rfl, hqs1, fqs1⟩ | ⟨k2s1, r2s1, rfl, hqs1, fqs1⟩
  · replace ehs1 := ehs1.symm
    subst ehs1
    obtain ⟨eps1, evs1⟩ := pNum_ok (n := D.1) (lo := 2) (hi := 4) (by omega) k2s1 (h2s1 k2s1) los1 his1
    refine w_if_ne (tgt := 20) (pc' := 18) F (by omega) dX3_readPace_15 (by decide) rfl (fun _ => ?_) (fun c0 => absurd c0 (by omega))
    refine v_aload_n (pc' := 21) F dX3_readPace_20 rfl (j := 0) rfl rfl ?_
    refine v_getf (pc' := 24) (v := .ref b) F k_X3_readPace_3 hxs1 3 (by decide) m_X3_readPace_f22 rfl dX3_readPace_21 rfl ?_
    refine v_aload_n (pc' := 25) F dX3_readPace_24 rfl (j := 0) rfl rfl ?_
    refine v_getf (pc' := 28) (v := .int (nI nus1)) F k_X3_readPace_3 hxs1 8 (by decide) m_X3_readPace_f38 rfl dX3_readPace_25 rfl ?_
    have g9 := f3 _ _ (gnc (g_neC hb hr (by decide)) gn0) hb
    have g10 := frs1 _ _ (gnc (g_neC g9 a2 (by decide)) gn0) g9
    refine w_putf (pc' := 31) F k_X3_readPace_0 tyX0_ok nmX0 g10 2 (by decide) m_X3_readPace_f96 rfl  rfl rfl (show 2 < 4 by decide) [.ref va, .int (nI D.1), .int (nI nus1), .int (nI D.2.2.1)] rfl dX3_readPace_28 rfl (fun h11 a12 f13 => ?_)
    refine v_aload_n (pc' := 32) F dX3_readPace_31 rfl (j := 0) rfl rfl ?_
    have g14 := f13 _ _ (gnc (g_neC hxs1 g10 (by decide)) gn0) hxs1
    have g15 := frs1 _ _ (gnc (Ne.symm (g_neA a2 g4)) gn0) g4
    have g16 := f13 _ _ (gnc (Ne.symm (g_neA g10 g15)) gn0) g15
    refine v_callV (pc' := 35) (rt := none) (mcc := 0) (msc := 0) (As := []) (st := []) F (fun l => c_X3_readToken G z0 l hlen (by omega) g16 ht g14 (enT_b t hbs1).2) gX3_readPace_X3_readToken rfl hv_X3_readToken (by decide) (by decide) g14 rfl rfl rfl (Nat.le_of_ble_eq_true rfl) (by omega) (by omega) dX3_readPace_32 rfl (fun v18 h17 hq => ?_)
    obtain ⟨rfl, hrs2, frs2⟩ := hq
    obtain ⟨s2, es2⟩ : ∃ s9, s9 = nxT t len s1 := ⟨_, rfl⟩
    have hbs2 : s2 ≤ len := by rw [es2]; exact (sk_b t (enT_b t hbs1).2).2
    have hks2 := kdT_b t len s2
    obtain ⟨nus2, hns2⟩ : ∃ u9, u9 = nuT t len s2 nus1 := ⟨_, rfl⟩
    have hls2 : nus2 ≤ 1000 := by rw [hns2]; exact nuT_b t len s2 hls1
    have h2s2 : kdT t len s2 = 2 → nus2 = min 1000 (vl t len s2) := fun z => by rw [hns2]; exact kd2 z
    have hxs2 : h17 rd = some (.inr (3, [.int off, .ref buf, .int (nI len), .ref b, .int er, .int (nI (enT t len s2)), .int (nI s2), .int (nI (kdT t len s2)), .int (nI nus2), .int (nI 0)])) := by rw [hns2, es2]; exact hrs2
    refine v_iconst (pc' := 36) (v := nI 1) F dX3_readPace_35 (by decide) rfl ?_
    have fr19 : gfr [rd, b, va] h h17 := (gfr.t (gfr.mono f3 (by intro q9 z9 m9; apply z9; simp only [List.mem_cons, List.not_mem_nil, or_false] at m9 ⊢; omega)) (gfr.t (gfr.mono frs1 (by intro q9 z9 m9; apply z9; simp only [List.mem_cons, List.not_mem_nil, or_false] at m9 ⊢; omega)) (gfr.t (gfr.mono f13 (by intro q9 z9 m9; apply z9; simp only [List.mem_cons, List.not_mem_nil, or_false] at m9 ⊢; omega)) (gfr.mono frs2 (by intro q9 z9 m9; apply z9; simp only [List.mem_cons, List.not_mem_nil, or_false] at m9 ⊢; omega)))))
    have g20 := frs2 _ _ (gnc (g_neC a12 g14 (by decide)) gn0) a12
    have g21 := f3 _ _ (gnc (Ne.symm (g_neA hr hva)) gn0) hva
    have g22 := frs1 _ _ (gnc (Ne.symm (g_neA a2 g21)) gn0) g21
    have g23 := f13 _ _ (gnc (Ne.symm (g_neA g10 g22)) gn0) g22
    have g24 := frs2 _ _ (gnc (Ne.symm (g_neA g14 g23)) gn0) g23
    refine v_zret F E (by omega) (by omega) (by decide) dX3_readPace_36 ?_
    have hB9 : isBk G h17 b va D.1 (vl t len s1) D.2.2.1 ad := ⟨by rw [← evs1]; exact g20, fv, g24, hfv⟩
    refine ⟨fr19, dPace D (vl t len s1), ad, as, w.pace (by omega) (by omega), ⟨hB9, fun i hi => (c.2.1 i hi).pv (gfr.pv fr19 (by intro a9 m9 ci9 fs9 c9 z9; simp only [List.mem_cons, List.not_mem_nil, or_false] at m9; rcases m9 with rfl | rfl | rfl <;> first | (rw [hr] at z9; cases z9; omega) | (rw [hb] at z9; cases z9; omega) | (rw [hva] at z9; cases z9))), c.2.2⟩, rfl, ?_⟩
    unfold pPace
    rw [← es1, eps1]
    exact ⟨rfl, rfl, rfl, by rw [← es2]; exact hbs2, nus2, hls2, by rw [← es2]; exact h2s2, by rw [← es2]; exact hxs2⟩
  · refine w_if_ne (tgt := 20) (pc' := 18) F (by omega) dX3_readPace_15 (by decide) rfl (fun c0 => absurd c0 (by omega)) (fun _ => ?_)
    refine v_iconst (pc' := 19) (v := nI 0) F dX3_readPace_18 (by decide) rfl ?_
    have fr25 : gfr [rd] h h7 := (gfr.t f3 (gfr.t frs1 fqs1))
    refine v_zret F E (by omega) (by omega) (by decide) dX3_readPace_19 ?_
    refine ⟨gfr.mono fr25 (by intro q9 z9 m9; apply z9; simp only [List.mem_cons, List.not_mem_nil, or_false] at m9 ⊢; omega), D, ad, as, w, c.fr hr fr25, rfl, ?_⟩
    unfold pPace
    rw [← es1, pNum_k (n := D.1) (lo := 2) (hi := 4) k2s1]
    exact ⟨rfl, rfl, (show ((-2) : Int32) ≠ 0 by decide), hbs1, _, _, _, _, _, by omega, hqs1⟩
  · refine w_if_ne (tgt := 20) (pc' := 18) F (by omega) dX3_readPace_15 (by decide) rfl (fun c0 => absurd c0 (by omega)) (fun _ => ?_)
    refine v_iconst (pc' := 19) (v := nI 0) F dX3_readPace_18 (by decide) rfl ?_
    have fr26 : gfr [rd] h h7 := (gfr.t f3 (gfr.t frs1 fqs1))
    refine v_zret F E (by omega) (by omega) (by decide) dX3_readPace_19 ?_
    refine ⟨gfr.mono fr26 (by intro q9 z9 m9; apply z9; simp only [List.mem_cons, List.not_mem_nil, or_false] at m9 ⊢; omega), D, ad, as, w, c.fr hr fr26, rfl, ?_⟩
    unfold pPace
    rw [← es1, pNum_r (n := D.1) (by omega) k2s1 (h2s1 k2s1) r2s1 (by omega)]
    exact ⟨rfl, rfl, (show ((-3) : Int32) ≠ 0 by decide), hbs1, _, _, _, _, _, by omega, hqs1⟩
