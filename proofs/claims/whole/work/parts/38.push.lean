/-! READING A PUSH -/
theorem stQ.trans {G : gG} {rd buf b va len : Nat} {t : Nat → Nat} {off er : Int32} {root : Nat} {r : PR} {h h1 h' : gH} {v : Option Value} (f : gfr [rd, b, va] h h1) (q : stQ G rd buf b va len t off er root r h1 v h') : stQ G rd buf b va len t off er root r h v h' := ⟨gfr.t f q.1, q.2⟩
theorem prN_ps (t : Nat → Nat) (len : Nat) : ∀ (m : Nat) (fs : Bool) (v s : Nat) (D : Dt), D.1 ≤ prN (pPs t len m fs v s D)
  | 0, _, _, _, _ => Nat.le_refl _
  | m + 1, fs, v, s, D => by
    unfold pPs
    split
    · split <;> exact Nat.le_refl _
    · split
      · exact Nat.le_refl _
      · split
        · exact Nat.le_refl _
        · have := prN_ps t len m false D.1 (nxT t len s) (dAdd D v (nI (vl t len s)))
          change D.1 + 1 ≤ _ at this
          omega
theorem k_X3_readPush_3 : gCl wsX3_readPush 3 RX3 TX3 10 := ⟨by decide +kernel, rfl⟩
theorem m_X3_readPush_f22 : Cond.fieldLink RX3 22 "SteadyQueues$SetupReader" "book" "LSteadyQueues$Book;" ∈ wsX3_readPush := by decide +kernel
theorem k_X3_readPush_0 : gCl wsX3_readPush 0 RX0 TX0 4 := ⟨by decide +kernel, rfl⟩
theorem m_X3_readPush_f71 : Cond.fieldLink RX3 71 "SteadyQueues$Book" "count" "I" ∈ wsX3_readPush := by decide +kernel
theorem m_X3_readPush_f38 : Cond.fieldLink RX3 38 "SteadyQueues$SetupReader" "number" "I" ∈ wsX3_readPush := by decide +kernel
theorem m_X3_readPush_f35 : Cond.fieldLink RX3 35 "SteadyQueues$SetupReader" "kind" "I" ∈ wsX3_readPush := by decide +kernel

set_option maxHeartbeats 4000000 in
set_option maxRecDepth 100000 in
theorem lp_X3_readPush {G : gG} {z0 : Nat} {X : gX} {l : Launch} {post : Option Value → gH → Prop} {mc ms cells slots m i v s root : Nat} {fst : Bool} {h : gH} {rd buf len b : Nat} {er off : Int32} {t : Nat → Nat} {f : Nat → Int32} {va : Nat} {D : Dt} {ad : Nat → Nat} {as : Nat → List Nat} (F : gF G z0 X cX3_readPush 3 RX3 wsX3_readPush (some .boolean) "readPush" 7 147 mc ms) (E : gE G z0 X post mc ms) (hlen : len ≤ 500) (ht : ∀ j, j < len → f j = sb_b (t j) ∧ t j < 256) (hv : v < D.1) (hi : i < D.1) (hfs : fst = true ↔ i = 0) (hbuf : h buf = some (oB G 500 f)) (hT : tkn h rd buf b len t off er 0 s) (w : wfD D) (c : clD G h b va D ad as) (hroot : ad 0 = root) (him : i + m = 64) (hcc : cells + 11 * (prN (pPs t len m fst v s D) - D.1) ≤ mc) (hss : slots + 33 * (prN (pPs t len m fst v s D) - D.1) ≤ ms) (hp : ∀ v9 h9, stQ G rd buf b va len t off er root (pPs t len m fst v s D) h v9 h9 → post v9 h9) : gV G z0 X cells slots h 39 [(2, .int (nI i)), (1, .int (nI v)), (0, .ref rd)] [] := by
  induction m generalizing i v s D ad as h cells slots fst with
  | zero => exact absurd w.2.1 (by omega)
  | succ m ih =>
    obtain ⟨hbs, nus, hls, h2s, hr⟩ := hT
    obtain ⟨hb, fv, hva, hfv⟩ := id c.1
    have hks := kdT_b t len s
    have wn := w.2.1
    have hmay : (0 : Nat) ≤ 1 := by omega
    unfold pPs at hp hcc hss
    refine v_iload_n (pc' := 40) F dX3_readPush_39 rfl (j := 0) rfl rfl ?_
    refine v_bipush (pc' := 42) (v := nI 64) F dX3_readPush_40 (by decide) rfl ?_
    refine w_icmp_ge (tgt := 111) (pc' := 45) F (by omega) (by omega) dX3_readPush_42 (by decide) rfl (fun c0 => absurd c0 (by omega)) (fun _ => ?_)
    refine v_iload_n (pc' := 46) F dX3_readPush_45 rfl (j := 0) rfl rfl ?_
    refine w_if_eq (tgt := 57) (pc' := 49) F (by omega) dX3_readPush_46 (by decide) rfl (fun zi => ?_) (fun zi => ?_)
    · refine v_aload_n (pc' := 58) F dX3_readPush_57 rfl (j := 2) rfl rfl ?_
      refine v_iconst (pc' := 59) (v := nI 0) F dX3_readPush_58 (by decide) rfl ?_
      refine v_bipush (pc' := 61) (v := nI 99) F dX3_readPush_59 (by decide) rfl ?_
      refine v_callV (pc' := 64) (rt := (some .boolean)) (mcc := 0) (msc := 0) (As := [.int (nI 0), .int (nI 99)]) (st := []) F (fun l => c_X3_seeNumber G z0 l hr (by omega) hls (by omega) (by omega)) gX3_readPush_X3_seeNumber rfl hv_X3_seeNumber (by decide) (by decide) hr rfl rfl rfl (Nat.le_of_ble_eq_true rfl) (by omega) (by omega) dX3_readPush_61 rfl (fun v2 h1 hq => ?_)
      rcases hq with ⟨k2, lo9, hi9, rfl, eh9⟩ | ⟨k2, rfl, hq2, fq⟩ | ⟨k2, r2, rfl, hq2, fq⟩
      · replace eh9 := eh9.symm
        subst eh9
        have ev : nus = vl t len s := by have := h2s k2; omega
        refine w_if_ne (tgt := 69) (pc' := 67) F (by omega) dX3_readPush_64 (by decide) rfl (fun _ => ?_) (fun c0 => absurd c0 (by omega))
        refine v_aload_n (pc' := 70) F dX3_readPush_69 rfl (j := 2) rfl rfl ?_
        refine v_getf (pc' := 73) (v := .ref b) F k_X3_readPush_3 hr 3 (by decide) m_X3_readPush_f22 rfl dX3_readPush_70 rfl ?_
        refine v_getf (pc' := 76) (v := .int (nI D.1)) F k_X3_readPush_0 hb 1 (by decide) m_X3_readPush_f71 rfl dX3_readPush_73 rfl ?_
        refine v_bipush (pc' := 78) (v := nI 64) F dX3_readPush_76 (by decide) rfl ?_
        refine w_icmp_lt (tgt := 88) (pc' := 81) F (by omega) (by omega) dX3_readPush_78 (by decide) rfl (fun c4 => ?_) (fun c4 => ?_)
        · rw [if_neg (fun z => z k2), if_neg (by omega), if_neg (by omega)] at hp hcc hss
          have hge := prN_ps t len m false D.1 (nxT t len s) (dAdd D v (nI (vl t len s)))
          change D.1 + 1 ≤ _ at hge
          have hO2 : wOk ((nI nus, D.2.1) :: D.2.2.2.2 v) := ⟨(w.os hv).1, w.2.2.1, w.2.2.2.1, fun z => absurd z (nI_m1 (by omega)), fun _ => ⟨nus, by omega, rfl⟩⟩
          refine v_aload_n (pc' := 89) F dX3_readPush_88 rfl (j := 2) rfl rfl ?_
          refine v_getf (pc' := 92) (v := .ref b) F k_X3_readPush_3 hr 3 (by decide) m_X3_readPush_f22 rfl dX3_readPush_89 rfl ?_
          refine v_iload_n (pc' := 93) F dX3_readPush_92 rfl (j := 1) rfl rfl ?_
          refine v_aload_n (pc' := 94) F dX3_readPush_93 rfl (j := 2) rfl rfl ?_
          refine v_getf (pc' := 97) (v := .int (nI nus)) F k_X3_readPush_3 hr 8 (by decide) m_X3_readPush_f38 rfl dX3_readPush_94 rfl ?_
          refine v_callV (pc' := 100) (rt := (some .int)) (mcc := 11) (msc := 33) (As := [.int (nI v), .int (nI nus)]) (st := []) F (fun l => c_X0_makeByPush G z0 l (nI nus) (nI_m1 (by omega)) (by omega) c.1 hv (c.2.1 v hv).x hO2 (w.os hv).2 w.2.2.2.1) gX3_readPush_X0_makeByPush rfl hv_X0_makeByPush (by decide) (by decide) hb rfl rfl rfl (Nat.le_of_ble_eq_true rfl) (by omega) (by omega) dX3_readPush_97 rfl (fun v4 h3 hq => ?_)
          obtain ⟨rfl, w9, hw9, hB4, hV4, hf4⟩ := hq
          have pv4 := gfr.pvB hb hva hf4
          have c4 := clD.add w c hv hw9 hB4 hV4 pv4
          have w4 := w.add (by omega) hv hO2
          obtain ⟨hb4, f4, hva4, hfv4⟩ := id hB4
          rw [ev] at c4 w4
          refine v_istore_n (pc' := 101) (i := 1) (L' := [(1, .int (nI D.1)), (2, .int (nI i)), (0, .ref rd)]) F dX3_readPush_100 rfl (by decide) rfl rfl ?_
          refine v_aload_n (pc' := 102) F dX3_readPush_101 rfl (j := 2) rfl rfl ?_
          have g5 := hf4 _ _ (gnc (g_neC hr hb (by decide)) (gnc (g_neA hr hva) gn0)) hr
          have g6 := hf4 _ _ (gnc (Ne.symm (g_neA hb hbuf)) (gnc (g_neL hbuf hva (by decide)) gn0)) hbuf
          refine v_callV (pc' := 105) (rt := none) (mcc := 0) (msc := 0) (As := []) (st := []) F (fun l => c_X3_readToken G z0 l hlen (by omega) g6 ht g5 (enT_b t hbs).2) gX3_readPush_X3_readToken rfl hv_X3_readToken (by decide) (by decide) g5 rfl rfl rfl (Nat.le_of_ble_eq_true rfl) (by omega) (by omega) dX3_readPush_102 rfl (fun v8 h7 hq => ?_)
          obtain ⟨rfl, hrs1, frs1⟩ := hq
          obtain ⟨s1, es1⟩ : ∃ s9, s9 = nxT t len s := ⟨_, rfl⟩
          have hbs1 : s1 ≤ len := by rw [es1]; exact (sk_b t (enT_b t hbs).2).2
          have hks1 := kdT_b t len s1
          obtain ⟨nus1, hns1⟩ : ∃ u9, u9 = nuT t len s1 nus := ⟨_, rfl⟩
          have hls1 : nus1 ≤ 1000 := by rw [hns1]; exact nuT_b t len s1 hls
          have h2s1 : kdT t len s1 = 2 → nus1 = min 1000 (vl t len s1) := fun z => by rw [hns1]; exact kd2 z
          have hxs1 : h7 rd = some (.inr (3, [.int off, .ref buf, .int (nI len), .ref b, .int er, .int (nI (enT t len s1)), .int (nI s1), .int (nI (kdT t len s1)), .int (nI nus1), .int (nI 0)])) := by rw [hns1, es1]; exact hrs1
          refine v_iinc (pc' := 108) (j := 1) (x := nI i) (v := nI (i + 1)) (L' := [(2, .int (nI (i + 1))), (1, .int (nI D.1)), (0, .ref rd)]) F dX3_readPush_105 rfl (nI_add i 1) (by decide) rfl rfl ?_
          refine v_goto (tgt := 39) F dX3_readPush_108 (by decide) ?_
          refine v_sub (L' := [(2, .int (nI (i + 1))), (1, .int (nI D.1)), (0, .ref rd)]) [0, 1, 2] rfl ?_
          have fr9 : gfr [rd, b, va] h h7 := (gfr.t (gfr.mono hf4 (by intro q9 z9 m9; apply z9; simp only [List.mem_cons, List.not_mem_nil, or_false] at m9 ⊢; omega)) (gfr.mono frs1 (by intro q9 z9 m9; apply z9; simp only [List.mem_cons, List.not_mem_nil, or_false] at m9 ⊢; omega)))
          have g10 := frs1 _ _ (gnc (Ne.symm (g_neA g5 g6)) gn0) g6
          exact ih (i := i + 1) (v := D.1) (s := s1) (fst := false) (D := dAdd D v (nI (vl t len s))) (by show D.1 < D.1 + 1; omega) (by show i + 1 < D.1 + 1; omega) ⟨fun z => (by cases z), fun z => absurd z (by omega)⟩ g10 ⟨hbs1, nus1, hls1, h2s1, hxs1⟩ w4 (c4.fr g5 frs1) (by show va_up ad D.1 w9 0 = root; unfold va_up; rw [if_neg (by omega)]; exact hroot) (by omega) (by rw [es1]; change _ + 11 * (_ - (D.1 + 1)) ≤ mc; omega) (by rw [es1]; change _ + 33 * (_ - (D.1 + 1)) ≤ ms; omega) (fun v9 h9 q9 => hp v9 h9 (by rw [← es1]; exact q9.trans fr9))
        · refine v_aload_n (pc' := 82) F dX3_readPush_81 rfl (j := 2) rfl rfl ?_
          refine v_bipush (pc' := 84) (v := (-4)) F dX3_readPush_82 (by decide) rfl ?_
          refine v_callV (pc' := 87) (rt := (some .boolean)) (mcc := 0) (msc := 0) (As := [.int (-4)]) (st := []) F (fun l => c_X3_fail G z0 l (-4) hr) gX3_readPush_X3_fail rfl hv_X3_fail (by decide) (by decide) hr rfl rfl rfl (Nat.le_of_ble_eq_true rfl) (by omega) (by omega) dX3_readPush_84 rfl (fun v12 h11 hq => ?_)
          obtain ⟨rfl, hq2, fq⟩ := hq
          refine v_zret F E (by omega) (by omega) (by decide) dX3_readPush_87 ?_
          rw [if_neg (fun z => z k2), if_neg (by omega), if_pos (by omega)] at hp
          exact hp _ _ ⟨gfr.mono fq (by intro q9 z9 m9; apply z9; simp only [List.mem_cons, List.not_mem_nil, or_false] at m9 ⊢; omega), D, ad, as, w, c.fr hr fq, hroot, rfl, rfl, (show (-4 : Int32) ≠ 0 by decide), hbs, _, _, _, _, _, by omega, hq2⟩
      · refine w_if_ne (tgt := 69) (pc' := 67) F (by omega) dX3_readPush_64 (by decide) rfl (fun c0 => absurd c0 (by omega)) (fun _ => ?_)
        refine v_iconst (pc' := 68) (v := nI 0) F dX3_readPush_67 (by decide) rfl ?_
        refine v_zret F E (by omega) (by omega) (by decide) dX3_readPush_68 ?_
        rw [if_pos k2, if_pos (hfs.mpr zi)] at hp
        have fq9 := fq
        exact hp _ _ ⟨gfr.mono fq (by intro q9 z9 m9; apply z9; simp only [List.mem_cons, List.not_mem_nil, or_false] at m9 ⊢; omega), D, ad, as, w, c.fr hr fq, hroot, rfl, rfl, (show (-2 : Int32) ≠ 0 by decide), hbs, _, _, _, _, _, by omega, hq2⟩
      · refine w_if_ne (tgt := 69) (pc' := 67) F (by omega) dX3_readPush_64 (by decide) rfl (fun c0 => absurd c0 (by omega)) (fun _ => ?_)
        refine v_iconst (pc' := 68) (v := nI 0) F dX3_readPush_67 (by decide) rfl ?_
        refine v_zret F E (by omega) (by omega) (by decide) dX3_readPush_68 ?_
        rw [if_neg (fun z => z k2), if_pos (by have := h2s k2; omega)] at hp
        exact hp _ _ ⟨gfr.mono fq (by intro q9 z9 m9; apply z9; simp only [List.mem_cons, List.not_mem_nil, or_false] at m9 ⊢; omega), D, ad, as, w, c.fr hr fq, hroot, rfl, rfl, (show (-3 : Int32) ≠ 0 by decide), hbs, _, _, _, _, _, by omega, hq2⟩
    · refine v_aload_n (pc' := 50) F dX3_readPush_49 rfl (j := 2) rfl rfl ?_
      refine v_getf (pc' := 53) (v := .int (nI (kdT t len s))) F k_X3_readPush_3 hr 7 (by decide) m_X3_readPush_f35 rfl dX3_readPush_50 rfl ?_
      refine v_iconst (pc' := 54) (v := nI 2) F dX3_readPush_53 (by decide) rfl ?_
      refine w_icmp_ne (tgt := 111) (pc' := 57) F (by omega) (by omega) dX3_readPush_54 (by decide) rfl (fun z2 => ?_) (fun z2 => ?_)
      · refine v_iconst (pc' := 112) (v := nI 1) F dX3_readPush_111 (by decide) rfl ?_
        refine v_zret F E (by omega) (by omega) (by decide) dX3_readPush_112 ?_
        rw [if_pos z2, if_neg (fun z => zi (hfs.mp z))] at hp
        exact hp _ _ ⟨gfr.rf, D, ad, as, w, c, hroot, rfl, rfl, rfl, hbs, nus, hls, h2s, hr⟩
      · refine v_aload_n (pc' := 58) F dX3_readPush_57 rfl (j := 2) rfl rfl ?_
        refine v_iconst (pc' := 59) (v := nI 0) F dX3_readPush_58 (by decide) rfl ?_
        refine v_bipush (pc' := 61) (v := nI 99) F dX3_readPush_59 (by decide) rfl ?_
        refine v_callV (pc' := 64) (rt := (some .boolean)) (mcc := 0) (msc := 0) (As := [.int (nI 0), .int (nI 99)]) (st := []) F (fun l => c_X3_seeNumber G z0 l hr (by omega) hls (by omega) (by omega)) gX3_readPush_X3_seeNumber rfl hv_X3_seeNumber (by decide) (by decide) hr rfl rfl rfl (Nat.le_of_ble_eq_true rfl) (by omega) (by omega) dX3_readPush_61 rfl (fun v14 h13 hq => ?_)
        rcases hq with ⟨k2, lo9, hi9, rfl, eh9⟩ | ⟨k2, rfl, hq2, fq⟩ | ⟨k2, r2, rfl, hq2, fq⟩
        · replace eh9 := eh9.symm
          subst eh9
          have ev : nus = vl t len s := by have := h2s k2; omega
          refine w_if_ne (tgt := 69) (pc' := 67) F (by omega) dX3_readPush_64 (by decide) rfl (fun _ => ?_) (fun c0 => absurd c0 (by omega))
          refine v_aload_n (pc' := 70) F dX3_readPush_69 rfl (j := 2) rfl rfl ?_
          refine v_getf (pc' := 73) (v := .ref b) F k_X3_readPush_3 hr 3 (by decide) m_X3_readPush_f22 rfl dX3_readPush_70 rfl ?_
          refine v_getf (pc' := 76) (v := .int (nI D.1)) F k_X3_readPush_0 hb 1 (by decide) m_X3_readPush_f71 rfl dX3_readPush_73 rfl ?_
          refine v_bipush (pc' := 78) (v := nI 64) F dX3_readPush_76 (by decide) rfl ?_
          refine w_icmp_lt (tgt := 88) (pc' := 81) F (by omega) (by omega) dX3_readPush_78 (by decide) rfl (fun c4 => ?_) (fun c4 => ?_)
          · rw [if_neg (fun z => z k2), if_neg (by omega), if_neg (by omega)] at hp hcc hss
            have hge := prN_ps t len m false D.1 (nxT t len s) (dAdd D v (nI (vl t len s)))
            change D.1 + 1 ≤ _ at hge
            have hO2 : wOk ((nI nus, D.2.1) :: D.2.2.2.2 v) := ⟨(w.os hv).1, w.2.2.1, w.2.2.2.1, fun z => absurd z (nI_m1 (by omega)), fun _ => ⟨nus, by omega, rfl⟩⟩
            refine v_aload_n (pc' := 89) F dX3_readPush_88 rfl (j := 2) rfl rfl ?_
            refine v_getf (pc' := 92) (v := .ref b) F k_X3_readPush_3 hr 3 (by decide) m_X3_readPush_f22 rfl dX3_readPush_89 rfl ?_
            refine v_iload_n (pc' := 93) F dX3_readPush_92 rfl (j := 1) rfl rfl ?_
            refine v_aload_n (pc' := 94) F dX3_readPush_93 rfl (j := 2) rfl rfl ?_
            refine v_getf (pc' := 97) (v := .int (nI nus)) F k_X3_readPush_3 hr 8 (by decide) m_X3_readPush_f38 rfl dX3_readPush_94 rfl ?_
            refine v_callV (pc' := 100) (rt := (some .int)) (mcc := 11) (msc := 33) (As := [.int (nI v), .int (nI nus)]) (st := []) F (fun l => c_X0_makeByPush G z0 l (nI nus) (nI_m1 (by omega)) (by omega) c.1 hv (c.2.1 v hv).x hO2 (w.os hv).2 w.2.2.2.1) gX3_readPush_X0_makeByPush rfl hv_X0_makeByPush (by decide) (by decide) hb rfl rfl rfl (Nat.le_of_ble_eq_true rfl) (by omega) (by omega) dX3_readPush_97 rfl (fun v16 h15 hq => ?_)
            obtain ⟨rfl, w9, hw9, hB4, hV4, hf4⟩ := hq
            have pv4 := gfr.pvB hb hva hf4
            have c4 := clD.add w c hv hw9 hB4 hV4 pv4
            have w4 := w.add (by omega) hv hO2
            obtain ⟨hb4, f4, hva4, hfv4⟩ := id hB4
            rw [ev] at c4 w4
            refine v_istore_n (pc' := 101) (i := 1) (L' := [(1, .int (nI D.1)), (2, .int (nI i)), (0, .ref rd)]) F dX3_readPush_100 rfl (by decide) rfl rfl ?_
            refine v_aload_n (pc' := 102) F dX3_readPush_101 rfl (j := 2) rfl rfl ?_
            have g17 := hf4 _ _ (gnc (g_neC hr hb (by decide)) (gnc (g_neA hr hva) gn0)) hr
            have g18 := hf4 _ _ (gnc (Ne.symm (g_neA hb hbuf)) (gnc (g_neL hbuf hva (by decide)) gn0)) hbuf
            refine v_callV (pc' := 105) (rt := none) (mcc := 0) (msc := 0) (As := []) (st := []) F (fun l => c_X3_readToken G z0 l hlen (by omega) g18 ht g17 (enT_b t hbs).2) gX3_readPush_X3_readToken rfl hv_X3_readToken (by decide) (by decide) g17 rfl rfl rfl (Nat.le_of_ble_eq_true rfl) (by omega) (by omega) dX3_readPush_102 rfl (fun v20 h19 hq => ?_)
            obtain ⟨rfl, hrs1, frs1⟩ := hq
            obtain ⟨s1, es1⟩ : ∃ s9, s9 = nxT t len s := ⟨_, rfl⟩
            have hbs1 : s1 ≤ len := by rw [es1]; exact (sk_b t (enT_b t hbs).2).2
            have hks1 := kdT_b t len s1
            obtain ⟨nus1, hns1⟩ : ∃ u9, u9 = nuT t len s1 nus := ⟨_, rfl⟩
            have hls1 : nus1 ≤ 1000 := by rw [hns1]; exact nuT_b t len s1 hls
            have h2s1 : kdT t len s1 = 2 → nus1 = min 1000 (vl t len s1) := fun z => by rw [hns1]; exact kd2 z
            have hxs1 : h19 rd = some (.inr (3, [.int off, .ref buf, .int (nI len), .ref b, .int er, .int (nI (enT t len s1)), .int (nI s1), .int (nI (kdT t len s1)), .int (nI nus1), .int (nI 0)])) := by rw [hns1, es1]; exact hrs1
            refine v_iinc (pc' := 108) (j := 1) (x := nI i) (v := nI (i + 1)) (L' := [(2, .int (nI (i + 1))), (1, .int (nI D.1)), (0, .ref rd)]) F dX3_readPush_105 rfl (nI_add i 1) (by decide) rfl rfl ?_
            refine v_goto (tgt := 39) F dX3_readPush_108 (by decide) ?_
            refine v_sub (L' := [(2, .int (nI (i + 1))), (1, .int (nI D.1)), (0, .ref rd)]) [0, 1, 2] rfl ?_
            have fr21 : gfr [rd, b, va] h h19 := (gfr.t (gfr.mono hf4 (by intro q9 z9 m9; apply z9; simp only [List.mem_cons, List.not_mem_nil, or_false] at m9 ⊢; omega)) (gfr.mono frs1 (by intro q9 z9 m9; apply z9; simp only [List.mem_cons, List.not_mem_nil, or_false] at m9 ⊢; omega)))
            have g22 := frs1 _ _ (gnc (Ne.symm (g_neA g17 g18)) gn0) g18
            exact ih (i := i + 1) (v := D.1) (s := s1) (fst := false) (D := dAdd D v (nI (vl t len s))) (by show D.1 < D.1 + 1; omega) (by show i + 1 < D.1 + 1; omega) ⟨fun z => (by cases z), fun z => absurd z (by omega)⟩ g22 ⟨hbs1, nus1, hls1, h2s1, hxs1⟩ w4 (c4.fr g17 frs1) (by show va_up ad D.1 w9 0 = root; unfold va_up; rw [if_neg (by omega)]; exact hroot) (by omega) (by rw [es1]; change _ + 11 * (_ - (D.1 + 1)) ≤ mc; omega) (by rw [es1]; change _ + 33 * (_ - (D.1 + 1)) ≤ ms; omega) (fun v9 h9 q9 => hp v9 h9 (by rw [← es1]; exact q9.trans fr21))
          · refine v_aload_n (pc' := 82) F dX3_readPush_81 rfl (j := 2) rfl rfl ?_
            refine v_bipush (pc' := 84) (v := (-4)) F dX3_readPush_82 (by decide) rfl ?_
            refine v_callV (pc' := 87) (rt := (some .boolean)) (mcc := 0) (msc := 0) (As := [.int (-4)]) (st := []) F (fun l => c_X3_fail G z0 l (-4) hr) gX3_readPush_X3_fail rfl hv_X3_fail (by decide) (by decide) hr rfl rfl rfl (Nat.le_of_ble_eq_true rfl) (by omega) (by omega) dX3_readPush_84 rfl (fun v24 h23 hq => ?_)
            obtain ⟨rfl, hq2, fq⟩ := hq
            refine v_zret F E (by omega) (by omega) (by decide) dX3_readPush_87 ?_
            rw [if_neg (fun z => z k2), if_neg (by omega), if_pos (by omega)] at hp
            exact hp _ _ ⟨gfr.mono fq (by intro q9 z9 m9; apply z9; simp only [List.mem_cons, List.not_mem_nil, or_false] at m9 ⊢; omega), D, ad, as, w, c.fr hr fq, hroot, rfl, rfl, (show (-4 : Int32) ≠ 0 by decide), hbs, _, _, _, _, _, by omega, hq2⟩
        · exact absurd z2 k2
        · refine w_if_ne (tgt := 69) (pc' := 67) F (by omega) dX3_readPush_64 (by decide) rfl (fun c0 => absurd c0 (by omega)) (fun _ => ?_)
          refine v_iconst (pc' := 68) (v := nI 0) F dX3_readPush_67 (by decide) rfl ?_
          refine v_zret F E (by omega) (by omega) (by decide) dX3_readPush_68 ?_
          rw [if_neg (fun z => z k2), if_pos (by have := h2s k2; omega)] at hp
          exact hp _ _ ⟨gfr.mono fq (by intro q9 z9 m9; apply z9; simp only [List.mem_cons, List.not_mem_nil, or_false] at m9 ⊢; omega), D, ad, as, w, c.fr hr fq, hroot, rfl, rfl, (show (-3 : Int32) ≠ 0 by decide), hbs, _, _, _, _, _, by omega, hq2⟩
theorem m_X3_readPush_f41 : Cond.fieldLink RX3 41 "SteadyQueues$SetupReader" "paceMayCome" "Z" ∈ wsX3_readPush := by decide +kernel
set_option maxHeartbeats 4000000 in
set_option maxRecDepth 100000 in
theorem c_X3_readPush (G : gG) (z0 : Nat) (l : Launch) {h : gH} {rd buf len b may : Nat} {er off : Int32} {t : Nat → Nat} {f : Nat → Int32} {s : Nat} {va : Nat} {D : Dt} {ad : Nat → Nat} {as : Nat → List Nat} (hlen : len ≤ 500) (hmay : may ≤ 1) (hbuf : h buf = some (oB G 500 f)) (ht : ∀ j, j < len → f j = sb_b (t j) ∧ t j < 256) (hT : tkn h rd buf b len t off er may s) (w : wfD D) (c : clD G h b va D ad as) : gC G z0 l yX3_readPush wsX3_readPush 7 147 [.ref rd] h (stQ G rd buf b va len t off er (ad 0) (pPush t len s D) h) (11 * (prN (pPush t len s D) - D.1)) (33 * (prN (pPush t len s D) - D.1)) := by
  obtain ⟨hbs, nus, hls, h2s, hr⟩ := hT
  obtain ⟨hb, fv, hva, hfv⟩ := id c.1
  have wn := w.2.1
  have wn1 := w.1
  unfold pPush
  refine gC_of (cc := cX3_readPush) (nL := 3) (ret := (some .boolean)) (by decide) rfl (Nat.le_of_ble_eq_true rfl) ?_
  intro X F E _
  change gF G z0 X cX3_readPush 3 RX3 wsX3_readPush (some .boolean) "readPush" 7 147 _ _ at F
  show gV G z0 X 0 0 h 0 [(0, .ref rd)] []
  refine v_aload_n (pc' := 1) F dX3_readPush_0 rfl (j := 0) rfl rfl ?_
  refine v_iconst (pc' := 2) (v := nI 0) F dX3_readPush_1 (by decide) rfl ?_
  refine w_putf (pc' := 5) F k_X3_readPush_3 tyX3_ok nmX3 hr 9 (by decide) m_X3_readPush_f41 rfl  (by decide) rfl (show 9 < 10 by decide) [.int off, .ref buf, .int (nI len), .ref b, .int er, .int (nI (enT t len s)), .int (nI s), .int (nI (kdT t len s)), .int (nI nus), .int (nI 0)] rfl dX3_readPush_2 rfl (fun h1 a2 f3 => ?_)
  refine v_aload_n (pc' := 6) F dX3_readPush_5 rfl (j := 0) rfl rfl ?_
  have g4 := f3 _ _ (gnc (Ne.symm (g_neA hr hbuf)) gn0) hbuf
  refine v_callV (pc' := 9) (rt := none) (mcc := 0) (msc := 0) (As := []) (st := []) F (fun l => c_X3_readToken G z0 l hlen (by omega) g4 ht a2 (enT_b t hbs).2) gX3_readPush_X3_readToken rfl hv_X3_readToken (by decide) (by decide) a2 rfl rfl rfl (Nat.le_of_ble_eq_true rfl) (by omega) (by omega) dX3_readPush_6 rfl (fun v6 h5 hq => ?_)
  obtain ⟨rfl, hrs1, frs1⟩ := hq
  obtain ⟨s1, es1⟩ : ∃ s9, s9 = nxT t len s := ⟨_, rfl⟩
  have hbs1 : s1 ≤ len := by rw [es1]; exact (sk_b t (enT_b t hbs).2).2
  have hks1 := kdT_b t len s1
  obtain ⟨nus1, hns1⟩ : ∃ u9, u9 = nuT t len s1 nus := ⟨_, rfl⟩
  have hls1 : nus1 ≤ 1000 := by rw [hns1]; exact nuT_b t len s1 hls
  have h2s1 : kdT t len s1 = 2 → nus1 = min 1000 (vl t len s1) := fun z => by rw [hns1]; exact kd2 z
  have hxs1 : h5 rd = some (.inr (3, [.int off, .ref buf, .int (nI len), .ref b, .int er, .int (nI (enT t len s1)), .int (nI s1), .int (nI (kdT t len s1)), .int (nI nus1), .int (nI 0)])) := by rw [hns1, es1]; exact hrs1
  refine v_aload_n (pc' := 10) F dX3_readPush_9 rfl (j := 0) rfl rfl ?_
  refine v_iconst (pc' := 11) (v := nI 0) F dX3_readPush_10 (by decide) rfl ?_
  refine v_aload_n (pc' := 12) F dX3_readPush_11 rfl (j := 0) rfl rfl ?_
  refine v_getf (pc' := 15) (v := .ref b) F k_X3_readPush_3 hxs1 3 (by decide) m_X3_readPush_f22 rfl dX3_readPush_12 rfl ?_
  have g7 := f3 _ _ (gnc (g_neC hb hr (by decide)) gn0) hb
  have g8 := frs1 _ _ (gnc (g_neC g7 a2 (by decide)) gn0) g7
  refine v_getf (pc' := 18) (v := .int (nI D.1)) F k_X3_readPush_0 g8 1 (by decide) m_X3_readPush_f71 rfl dX3_readPush_15 rfl ?_
  refine v_iconst (pc' := 19) (v := nI 1) F dX3_readPush_18 (by decide) rfl ?_
  refine v_isub (pc' := 20) (v := nI (D.1 - 1)) F dX3_readPush_19 (g_subn (by omega) (by omega)) rfl ?_
  refine v_callV (pc' := 23) (rt := (some .boolean)) (mcc := 0) (msc := 0) (As := [.int (nI 0), .int (nI (D.1 - 1))]) (st := []) F (fun l => c_X3_seeNumber G z0 l hxs1 (by omega) hls1 (by omega) (by omega)) gX3_readPush_X3_seeNumber rfl hv_X3_seeNumber (by decide) (by decide) hxs1 rfl rfl rfl (Nat.le_of_ble_eq_true rfl) (by omega) (by omega) dX3_readPush_20 rfl (fun v10 h9 hq => ?_)
  rcases hq with ⟨k2s1, los1, his1, rfl, ehs1⟩ | ⟨k2s1, rfl, hqs1, fqs1⟩ | ⟨k2s1, r2s1, rfl, hqs1, fqs1⟩
  · replace ehs1 := ehs1.symm
    subst ehs1
    obtain ⟨eps1, evs1⟩ := pNum_ok (n := D.1) (lo := 0) (hi := (D.1 - 1)) (by omega) k2s1 (h2s1 k2s1) los1 his1
    refine w_if_ne (tgt := 28) (pc' := 26) F (by omega) dX3_readPush_23 (by decide) rfl (fun _ => ?_) (fun c0 => absurd c0 (by omega))
    refine v_aload_n (pc' := 29) F dX3_readPush_28 rfl (j := 0) rfl rfl ?_
    refine v_getf (pc' := 32) (v := .int (nI nus1)) F k_X3_readPush_3 hxs1 8 (by decide) m_X3_readPush_f38 rfl dX3_readPush_29 rfl ?_
    refine v_istore_n (pc' := 33) (i := 1) (L' := [(1, .int (nI nus1)), (0, .ref rd)]) F dX3_readPush_32 rfl (by decide) rfl rfl ?_
    refine v_aload_n (pc' := 34) F dX3_readPush_33 rfl (j := 1) rfl rfl ?_
    have g11 := frs1 _ _ (gnc (Ne.symm (g_neA a2 g4)) gn0) g4
    refine v_callV (pc' := 37) (rt := none) (mcc := 0) (msc := 0) (As := []) (st := []) F (fun l => c_X3_readToken G z0 l hlen (by omega) g11 ht hxs1 (enT_b t hbs1).2) gX3_readPush_X3_readToken rfl hv_X3_readToken (by decide) (by decide) hxs1 rfl rfl rfl (Nat.le_of_ble_eq_true rfl) (by omega) (by omega) dX3_readPush_34 rfl (fun v13 h12 hq => ?_)
    obtain ⟨rfl, hrs2, frs2⟩ := hq
    obtain ⟨s2, es2⟩ : ∃ s9, s9 = nxT t len s1 := ⟨_, rfl⟩
    have hbs2 : s2 ≤ len := by rw [es2]; exact (sk_b t (enT_b t hbs1).2).2
    have hks2 := kdT_b t len s2
    obtain ⟨nus2, hns2⟩ : ∃ u9, u9 = nuT t len s2 nus1 := ⟨_, rfl⟩
    have hls2 : nus2 ≤ 1000 := by rw [hns2]; exact nuT_b t len s2 hls1
    have h2s2 : kdT t len s2 = 2 → nus2 = min 1000 (vl t len s2) := fun z => by rw [hns2]; exact kd2 z
    have hxs2 : h12 rd = some (.inr (3, [.int off, .ref buf, .int (nI len), .ref b, .int er, .int (nI (enT t len s2)), .int (nI s2), .int (nI (kdT t len s2)), .int (nI nus2), .int (nI 0)])) := by rw [hns2, es2]; exact hrs2
    refine v_iconst (pc' := 38) (v := nI 0) F dX3_readPush_37 (by decide) rfl ?_
    refine v_istore_n (pc' := 39) (i := 2) (L' := [(2, .int (nI 0)), (1, .int (nI nus1)), (0, .ref rd)]) F dX3_readPush_38 rfl (by decide) rfl rfl ?_
    refine v_sub (L' := [(2, .int (nI 0)), (1, .int (nI nus1)), (0, .ref rd)]) [0, 1, 2] rfl ?_
    have fr14 : gfr [rd] h h12 := (gfr.t f3 (gfr.t frs1 frs2))
    rw [← es1, eps1] at E F
    simp only at E F
    rw [← es2, ← evs1] at E F
    have g15 := frs2 _ _ (gnc (Ne.symm (g_neA hxs1 g11)) gn0) g11
    exact lp_X3_readPush (l := l) (m := 64) (fst := true) F E hlen ht (by omega) (by omega) ⟨fun _ => rfl, fun _ => rfl⟩ g15 ⟨hbs2, nus2, hls2, h2s2, hxs2⟩ w (c.fr hr fr14) rfl rfl (by omega) (by omega) (fun v9 h9 q9 => q9.trans (gfr.mono fr14 (by intro q9 z9 m9; apply z9; simp only [List.mem_cons, List.not_mem_nil, or_false] at m9 ⊢; omega)))
  · refine w_if_ne (tgt := 28) (pc' := 26) F (by omega) dX3_readPush_23 (by decide) rfl (fun c0 => absurd c0 (by omega)) (fun _ => ?_)
    refine v_iconst (pc' := 27) (v := nI 0) F dX3_readPush_26 (by decide) rfl ?_
    have fr16 : gfr [rd] h h9 := (gfr.t f3 (gfr.t frs1 fqs1))
    refine v_zret F E (by omega) (by omega) (by decide) dX3_readPush_27 ?_
    refine ⟨gfr.mono fr16 (by intro q9 z9 m9; apply z9; simp only [List.mem_cons, List.not_mem_nil, or_false] at m9 ⊢; omega), D, ad, as, w, c.fr hr fr16, rfl, ?_⟩
    rw [← es1, pNum_k (n := D.1) (lo := 0) (hi := (D.1 - 1)) k2s1]
    exact ⟨rfl, rfl, (show ((-2) : Int32) ≠ 0 by decide), hbs1, _, _, _, _, _, by omega, hqs1⟩
  · refine w_if_ne (tgt := 28) (pc' := 26) F (by omega) dX3_readPush_23 (by decide) rfl (fun c0 => absurd c0 (by omega)) (fun _ => ?_)
    refine v_iconst (pc' := 27) (v := nI 0) F dX3_readPush_26 (by decide) rfl ?_
    have fr17 : gfr [rd] h h9 := (gfr.t f3 (gfr.t frs1 fqs1))
    refine v_zret F E (by omega) (by omega) (by decide) dX3_readPush_27 ?_
    refine ⟨gfr.mono fr17 (by intro q9 z9 m9; apply z9; simp only [List.mem_cons, List.not_mem_nil, or_false] at m9 ⊢; omega), D, ad, as, w, c.fr hr fr17, rfl, ?_⟩
    rw [← es1, pNum_r (n := D.1) (by omega) k2s1 (h2s1 k2s1) r2s1 (by omega)]
    exact ⟨rfl, rfl, (show ((-3) : Int32) ≠ 0 by decide), hbs1, _, _, _, _, _, by omega, hqs1⟩
