/-! STEADYQUEUES: LOAD -/
theorem prN_ps64 (t : Nat → Nat) (len : Nat) : ∀ (m : Nat) (fs : Bool) (v s : Nat) (D : Dt), D.1 ≤ 64 → prN (pPs t len m fs v s D) ≤ 64
  | 0, _, _, _, _, h => h
  | m + 1, fs, v, s, D, h => by
    unfold pPs
    split
    · split <;> exact h
    · split
      · exact h
      · split
        · exact h
        · exact prN_ps64 t len m false D.1 (nxT t len s) (dAdd D v (nI (vl t len s))) (by show D.1 + 1 ≤ 64; omega)
theorem prN_push64 (t : Nat → Nat) (len s : Nat) (D : Dt) (h : D.1 ≤ 64) : prN (pPush t len s D) ≤ 64 := by
  unfold pPush
  split
  · rename_i e he
    unfold pNum at he
    split at he
    · cases he; exact h
    · split at he <;> cases he; exact h
  · exact prN_ps64 _ _ _ _ _ _ _ h
theorem prN_pop64 (t : Nat → Nat) (len s : Nat) (D : Dt) (h : D.1 ≤ 64) : prN (pPop t len s D) ≤ 64 := by
  unfold pPop
  split
  · rename_i e he
    unfold pNum at he
    split at he
    · cases he; exact h
    · split at he <;> cases he; exact h
  · split
    · rename_i e he
      unfold pNum at he
      split at he
      · cases he; exact h
      · split at he <;> cases he; exact h
    · split
      · exact h
      · split
        · exact h
        · show (dPops _ _ D).1 ≤ 64
          rw [dPops_n]; omega
theorem prN_st64 (t : Nat → Nat) (len : Nat) (may : Bool) (s : Nat) (D : Dt) (h : D.1 ≤ 64) : prN (pSt t len may s D) ≤ 64 := by
  unfold pSt
  split
  · exact prN_push64 _ _ _ _ h
  · split
    · exact prN_pop64 _ _ _ _ h
    · split
      · rw [prN_pace]; exact h
      · exact h
theorem prN_main64 (t : Nat → Nat) (len : Nat) : ∀ (m : Nat) (may : Bool) (s : Nat) (D : Dt), D.1 ≤ 64 → prN (pMain t len m may s D) ≤ 64
  | 0, _, _, _, h => h
  | m + 1, may, s, D, h => by
    have h1 := prN_st64 t len may s D h
    unfold pMain
    split
    · exact h
    · split
      · rename_i e he
        rw [he] at h1
        exact h1
      · rename_i s1 D1 he
        rw [he] at h1
        change D1.1 ≤ 64 at h1
        split
        · exact prN_main64 t len m false _ D1 h1
        · exact h1
theorem prN_all64 (t : Nat → Nat) (len : Nat) : 1 ≤ prN (pAll t len) ∧ prN (pAll t len) ≤ 64 := by
  unfold pAll
  split
  · exact ⟨Nat.le_refl _, by show 1 ≤ 64; omega⟩
  · split
    · exact ⟨Nat.le_refl _, by show 1 ≤ 64; omega⟩
    · exact ⟨prN_main t len len true _ D0, prN_main64 _ _ _ _ _ _ (by show 1 ≤ 64; omega)⟩
def rdI (h : gH) (rd : Nat) : Prop := (∃ (o9 e9 l9 : Int32) (tx bk9 : Option Nat) (at9 st9 kd9 nu9 may9 : Nat), nu9 ≤ 1000 ∧ h rd = some (.inr (3, [.int o9, va_rf tx, .int l9, va_rf bk9, .int e9, .int (nI at9), .int (nI st9), .int (nI kd9), .int (nI nu9), .int (nI may9)])))
/-- behind a load of len signs -/
def ldQ (G : gG) (h : gH) (x buf rd bks oq rw orw cur und : Nat) (bk : Nat → Nat) (va2 len root : Nat) (t : Nat → Nat) (v : Option Value) (h' : gH) : Prop := gfr [x, rd, bk ((cur + 1) % 10), va2] h h' ∧ rdI h' rd ∧ ∃ (D' : Dt) (ad' : Nat → Nat) (as' : Nat → List Nat), wfD D' ∧ clD G h' (bk ((cur + 1) % 10)) va2 D' ad' as' ∧ ad' 0 = root ∧ match pAll t len with
  | .inl e => v = some (.int e.1) ∧ e.1 ≠ 0 ∧ e.2.1 ≤ len ∧ isX6 G h' x buf rd bks oq rw orw 0 (nI e.2.1) cur und bk
  | .inr q => v = some (.int (nI q.2.1)) ∧ q.2 = D' ∧ isX6 G h' x buf rd bks oq rw orw 0 (-1) ((cur + 1) % 10) (min 8 (und + 1)) bk
theorem m_X6_load_c65 : Cond.classLink RX6 65 "java/lang/IllegalArgumentException" ∈ wsX6_load := by decide +kernel
theorem m_X6_load_iniIAE : Cond.initialized "java/lang/IllegalArgumentException" ∈ wsX6_load := by decide +kernel
theorem m_X6_load_atIAE : ∀ w ∈ (vx_atS RX6 69 "java/lang/IllegalArgumentException" gNames).filter goodWord, w ∈ wsX6_load := by decide +kernel
theorem k_X6_load_6 : gCl wsX6_load 6 RX6 TX6 10 := ⟨by decide +kernel, rfl⟩
theorem m_X6_load_f40 : Cond.fieldLink RX6 40 "SteadyQueues" "bufferLength" "I" ∈ wsX6_load := by decide +kernel
theorem m_X6_load_f22 : Cond.fieldLink RX6 22 "SteadyQueues" "books" "[LSteadyQueues$Book;" ∈ wsX6_load := by decide +kernel
theorem m_X6_load_f47 : Cond.fieldLink RX6 47 "SteadyQueues" "current" "I" ∈ wsX6_load := by decide +kernel
theorem hv_X0_restart : yX0_restart.cls = RX0 ∧ yX0_restart.cls ≠ "java/lang/invoke/MethodHandle" ∧ yX0_restart.cls ≠ "java/lang/invoke/VarHandle" ∧ (parseMethodDescriptor yX0_restart.desc).map (fun d => d.parameters.length) = some 0 := by decide +kernel
theorem m_X6_load_f16 : Cond.fieldLink RX6 16 "SteadyQueues" "reader" "LSteadyQueues$SetupReader;" ∈ wsX6_load := by decide +kernel
theorem m_X6_load_f9 : Cond.fieldLink RX6 9 "SteadyQueues" "buffer" "[B" ∈ wsX6_load := by decide +kernel
theorem hv_X3_read : yX3_read.cls = RX3 ∧ yX3_read.cls ≠ "java/lang/invoke/MethodHandle" ∧ yX3_read.cls ≠ "java/lang/invoke/VarHandle" ∧ (parseMethodDescriptor yX3_read.desc).map (fun d => d.parameters.length) = some 3 := by decide +kernel
theorem k_X6_load_3 : gCl wsX6_load 3 RX3 TX3 10 := ⟨by decide +kernel, rfl⟩
theorem m_X6_load_f83 : Cond.fieldLink RX6 83 "SteadyQueues$SetupReader" "offsetOfError" "I" ∈ wsX6_load := by decide +kernel
theorem m_X6_load_f44 : Cond.fieldLink RX6 44 "SteadyQueues" "offsetOfError" "I" ∈ wsX6_load := by decide +kernel
theorem k_X6_load_0 : gCl wsX6_load 0 RX0 TX0 4 := ⟨by decide +kernel, rfl⟩
theorem m_X6_load_f87 : Cond.fieldLink RX6 87 "SteadyQueues$Book" "count" "I" ∈ wsX6_load := by decide +kernel
set_option maxHeartbeats 4000000 in
set_option maxRecDepth 100000 in
theorem c_X6_load (G : gG) (z0 : Nat) (l : Launch) (hst : l.stackTraces = false) {h : gH} {x buf rd bks oq rw orw bl cur und : Nat} {off : Int32} {bk : Nat → Nat} {f : Nat → Int32} {t : Nat → Nat} {va2 n2 pc2 dr2 root : Nat} {f2 : Nat → Option Nat} (w : Int32) (hX : isX6 G h x buf rd bks oq rw orw bl off cur und bk) (hc : cur < 10) (hu : und ≤ 8) (hRd : rdI h rd) (hbuf : h buf = some (oB G 500 f)) (ht : ∀ j, j < bl → f j = sb_b (t j) ∧ t j < 256) (hbl : bl ≤ 500) (hb2 : h (bk ((cur + 1) % 10)) = some (.inr (0, [.ref va2, .int (nI n2), .int (nI pc2), .int (nI dr2)]))) (hva2 : h va2 = some (oV G 64 f2)) (hf0 : f2 0 = some root) (hVr : isVc h [] [root]) : gCX G z0 l yX6_load wsX6_load 9 195 [.ref x, .int w] h (fun v h' => ∃ k, k < bl + 1 ∧ w = nI k ∧ ldQ G h x buf rd bks oq rw orw cur und bk va2 k root t v h') (fun E h' => h' = h ∧ E = "java/lang/IllegalArgumentException" ∧ ¬ iR w (bl + 1)) 700 2100 := by
  obtain ⟨hx, fb, hbks, hfb⟩ := id hX
  obtain ⟨frk0, hrk⟩ : ∃ fs, h root = some (.inr (5, fs)) := hVr.v.kindE
  obtain ⟨frs0, hr0⟩ : ∃ fs, h rd = some (.inr (3, fs)) := by
    obtain ⟨o9, e9, l9, tx, bk9, at9, st9, kd9, nu9, may9, hnu, hrr⟩ := hRd
    exact ⟨_, hrr⟩
  have hc2 : cur < 10 := hc
  refine gCX_of hst (cc := cX6_load) (nL := 4) (ret := (some .int)) (by decide) rfl (Nat.le_of_ble_eq_true rfl) ?_
  intro X F E EX _
  change gF G z0 X cX6_load 4 RX6 wsX6_load (some .int) "load" 9 195 _ _ at F
  show gV G z0 X 0 0 h 0 [(0, .ref x), (1, .int w)] []
  refine v_iload_n (pc' := 1) F dX6_load_0 rfl (j := 1) rfl rfl ?_
  rcases pk_ix w (n := bl + 1) (by omega) with h1 | h1 | ⟨k, hk, rfl⟩
  · refine v_if_lt (tgt := 12) (pc' := 4) F dX6_load_1 (by decide) rfl (fun _ => ?_) (fun c0 => absurd h1 c0)
    exact v_throw F EX (E := "java/lang/IllegalArgumentException") (text := "no such length") (num := 4) hv_th_RX6_65_69 m_X6_load_c65 m_X6_load_iniIAE m_X6_load_atIAE (by decide +kernel) dX6_load_12 rfl dX6_load_15 rfl dX6_load_16 rfl dX6_load_18 rfl dX6_load_21 (by decide) (Nat.le_of_ble_eq_true rfl) (by omega) (by omega) ⟨rfl, rfl, iR_neg (by omega) h1⟩
  · refine v_if_lt (tgt := 12) (pc' := 4) F dX6_load_1 (by decide) rfl (fun c1 => ?_) (fun c1 => ?_)
    · exact v_throw F EX (E := "java/lang/IllegalArgumentException") (text := "no such length") (num := 4) hv_th_RX6_65_69 m_X6_load_c65 m_X6_load_iniIAE m_X6_load_atIAE (by decide +kernel) dX6_load_12 rfl dX6_load_15 rfl dX6_load_16 rfl dX6_load_18 rfl dX6_load_21 (by decide) (Nat.le_of_ble_eq_true rfl) (by omega) (by omega) ⟨rfl, rfl, iR_ge (by omega) h1⟩
    · refine v_iload_n (pc' := 5) F dX6_load_4 rfl (j := 1) rfl rfl ?_
      refine v_aload_n (pc' := 6) F dX6_load_5 rfl (j := 0) rfl rfl ?_
      refine v_getf (pc' := 9) (v := .int (nI bl)) F k_X6_load_6 hx 6 (by decide) m_X6_load_f40 rfl dX6_load_6 rfl ?_
      refine v_icmp_le (tgt := 22) (pc' := 12) F dX6_load_9 (by decide) rfl (fun c0 => absurd c0 (Int32.not_le.mpr (Int32.lt_of_lt_of_le ((nI_lt (show bl < bl + 1 by omega) (by omega))) h1))) (fun _ => ?_)
      exact v_throw F EX (E := "java/lang/IllegalArgumentException") (text := "no such length") (num := 4) hv_th_RX6_65_69 m_X6_load_c65 m_X6_load_iniIAE m_X6_load_atIAE (by decide +kernel) dX6_load_12 rfl dX6_load_15 rfl dX6_load_16 rfl dX6_load_18 rfl dX6_load_21 (by decide) (Nat.le_of_ble_eq_true rfl) (by omega) (by omega) ⟨rfl, rfl, iR_ge (by omega) h1⟩
  · refine w_if_lt (tgt := 12) (pc' := 4) F (by omega) dX6_load_1 (by decide) rfl (fun c0 => absurd c0 (by omega)) (fun _ => ?_)
    refine v_iload_n (pc' := 5) F dX6_load_4 rfl (j := 1) rfl rfl ?_
    refine v_aload_n (pc' := 6) F dX6_load_5 rfl (j := 0) rfl rfl ?_
    refine v_getf (pc' := 9) (v := .int (nI bl)) F k_X6_load_6 hx 6 (by decide) m_X6_load_f40 rfl dX6_load_6 rfl ?_
    refine w_icmp_le (tgt := 22) (pc' := 12) F (by omega) (by omega) dX6_load_9 (by decide) rfl (fun _ => ?_) (fun c0 => absurd c0 (by omega))
    refine v_aload_n (pc' := 23) F dX6_load_22 rfl (j := 0) rfl rfl ?_
    refine v_iconst (pc' := 24) (v := nI 0) F dX6_load_23 (by decide) rfl ?_
    refine w_putf (pc' := 27) F k_X6_load_6 tyX6_ok nmX6 hx 6 (by decide) m_X6_load_f40 rfl  rfl rfl (show 6 < 10 by decide) [.ref buf, .ref rd, .ref bks, .ref oq, .ref rw, .ref orw, .int (nI 0), .int off, .int (nI cur), .int (nI und)] rfl dX6_load_24 rfl (fun h1 a2 f3 => ?_)
    refine v_aload_n (pc' := 28) F dX6_load_27 rfl (j := 0) rfl rfl ?_
    refine v_getf (pc' := 31) (v := .ref bks) F k_X6_load_6 a2 2 (by decide) m_X6_load_f22 rfl dX6_load_28 rfl ?_
    refine v_aload_n (pc' := 32) F dX6_load_31 rfl (j := 0) rfl rfl ?_
    refine v_getf (pc' := 35) (v := .int (nI cur)) F k_X6_load_6 a2 8 (by decide) m_X6_load_f47 rfl dX6_load_32 rfl ?_
    refine v_callS (pc' := 38) (rt := (some .int)) (mcc := 0) (msc := 0) (As := [.int (nI cur)]) (st := [.ref bks]) F (fun l => c_X6_following G z0 l (k := cur) (by omega)) gX6_load_X6_following rfl hd_X6_following (by decide) (by decide) rfl rfl (Nat.le_of_ble_eq_true rfl) (by omega) (by omega) dX6_load_35 rfl (fun v4 h1 hq => ?_)
    obtain ⟨rfl, rfl⟩ := hq
    have g5 := f3 _ _ (gnc ((g_neA hx hbks).symm) gn0) hbks
    refine w_qald (pc' := 39) (v := some (bk ((cur + 1) % 10))) F g5 (by omega) (by omega) (hfb ((cur + 1) % 10) (by omega)) dX6_load_38 rfl ?_
    refine v_astore_n (pc' := 40) (i := 2) (L' := [(2, .ref (bk ((cur + 1) % 10))), (0, .ref x), (1, .int (nI k))]) F dX6_load_39 rfl (by decide) rfl rfl ?_
    refine v_aload_n (pc' := 41) F dX6_load_40 rfl (j := 0) rfl rfl ?_
    have g6 := f3 _ _ (gnc (g_neC hb2 hx (by decide)) gn0) hb2
    have g7 := f3 _ _ (gnc (Ne.symm (g_neA hx hva2)) gn0) hva2
    refine v_callV (pc' := 44) (rt := none) (mcc := 0) (msc := 0) (As := []) (st := []) F (fun l => c_X0_restart G z0 l (n := n2) (pc := pc2) (dr := dr2) (v := root) g6 g7 hf0) gX6_load_X0_restart rfl hv_X0_restart (by decide) (by decide) g6 rfl rfl rfl (Nat.le_of_ble_eq_true rfl) (by omega) (by omega) dX6_load_41 rfl (fun v9 h8 hq => ?_)
    obtain ⟨rfl, hB3, fR⟩ := hq
    have g10 := f3 _ _ (gnc (g_neC hr0 hx (by decide)) gn0) hr0
    have g11 := f3 _ _ (gnc (Ne.symm (g_neA hx hbuf)) gn0) hbuf
    have g12 := f3 _ _ (gnc (g_neC hrk hx (by decide)) gn0) hrk
    obtain ⟨hb3, -⟩ := id hB3
    refine v_aload_n (pc' := 45) F dX6_load_44 rfl (j := 1) rfl rfl ?_
    have g13 := fR _ _ (gnc (g_neC a2 g6 (by decide)) gn0) a2
    refine v_getf (pc' := 48) (v := .ref rd) F k_X6_load_6 g13 1 (by decide) m_X6_load_f16 rfl dX6_load_45 rfl ?_
    refine v_aload_n (pc' := 49) F dX6_load_48 rfl (j := 1) rfl rfl ?_
    refine v_getf (pc' := 52) (v := .ref buf) F k_X6_load_6 g13 0 (by decide) m_X6_load_f9 rfl dX6_load_49 rfl ?_
    refine v_iload_n (pc' := 53) F dX6_load_52 rfl (j := 2) rfl rfl ?_
    refine v_aload_n (pc' := 54) F dX6_load_53 rfl (j := 0) rfl rfl ?_
    have fr14 : gfr [x, rd, bk ((cur + 1) % 10), va2] h h8 := (gfr.t (gfr.mono f3 (by intro q9 z9 m9; apply z9; simp only [List.mem_cons, List.not_mem_nil, or_false] at m9 ⊢; omega)) (gfr.mono fR (by intro q9 z9 m9; apply z9; simp only [List.mem_cons, List.not_mem_nil, or_false] at m9 ⊢; omega)))
    have g15 := fR _ _ (gnc (g_neC g10 g6 (by decide)) gn0) g10
    have hRI : rdI h8 rd := by
      obtain ⟨o9, e9, l9, tx, bk9, at9, st9, kd9, nu9, may9, hnu, hrr⟩ := id hRd
      exact ⟨o9, e9, l9, tx, bk9, at9, st9, kd9, nu9, may9, hnu, by rw [← hrr, hr0]; exact g15⟩
    have pvA : gpv h h8 := gfr.pv fr14 (by intro a9 m9 ci9 fs9 c9 z9; simp only [List.mem_cons, List.not_mem_nil, or_false] at m9; rcases m9 with rfl | rfl | rfl | rfl <;> first | (rw [hx] at z9; cases z9; omega) | (rw [hr0] at z9; cases z9; omega) | (rw [hb2] at z9; cases z9; omega) | (rw [hva2] at z9; cases z9))
    have g16 := fR _ _ (gnc (Ne.symm (g_neA g6 g7)) gn0) g7
    have c0 : clD G h8 (bk ((cur + 1) % 10)) va2 D0 (fun _ => root) (fun _ => []) := ⟨⟨hb3, f2, g16, fun i hi => by have e : i = 0 := (by change i < 1 at hi; omega); rw [e]; exact hf0⟩, fun i hi => hVr.pv pvA, rfl, fun i h1 h2 => absurd h2 (by show ¬ i < 1; omega), fun i j h1 h2 _ => by change i < 1 at h1; change j < 1 at h2; omega⟩
    have hp64 := prN_all64 t k
    have g17 := fR _ _ (gnc (Ne.symm (g_neA g6 g11)) gn0) g11
    refine v_callV (pc' := 57) (rt := (some .int)) (mcc := 11 * (prN (pAll t k) - 1)) (msc := 33 * (prN (pAll t k) - 1)) (As := [.ref buf, .int (nI k), .ref (bk ((cur + 1) % 10))]) (st := []) F (fun l => c_X3_read G z0 l (len := k) (by omega) (fun j hj => ht j (by omega)) g17 hRI c0) gX6_load_X3_read rfl hv_X3_read (by decide) (by decide) g15 rfl rfl rfl (Nat.le_of_ble_eq_true rfl) (by omega) (by omega) dX6_load_54 rfl (fun v19 h18 hq => ?_)
    obtain ⟨frq, D9, ad9, as9, w9, c9, hr9, hn9, may9, at9, st9, kd9, nu9, hnu9, hm9⟩ := hq
    have g20 := fR _ _ (gnc (Ne.symm (g_neA g6 g5)) gn0) g5
    obtain ⟨hb9, f9, hva9, hfv9⟩ := id c9.1
    have g21 := frq _ _ (gnc (g_neC g13 g15 (by decide)) (gnc (g_neC g13 hb3 (by decide)) (gnc (g_neA g13 g16) gn0))) g13
    have g22 := frq _ _ (gnc (Ne.symm (g_neA g15 g17)) (gnc (Ne.symm (g_neA hb3 g17)) (gnc (g_neL g17 g16 (by decide)) gn0))) g17
    have g23 := frq _ _ (gnc (Ne.symm (g_neA g15 g20)) (gnc (Ne.symm (g_neA hb3 g20)) (gnc (g_neL g20 g16 (by decide)) gn0))) g20
    have g24 := fR _ _ (gnc (g_neC g12 g6 (by decide)) gn0) g12
    have g25 := frq _ _ (gnc (g_neC g24 g15 (by decide)) (gnc (g_neC g24 hb3 (by decide)) (gnc (g_neA g24 g16) gn0))) g24
    cases hpa : pAll t k with
      | inl e =>
        rw [hpa] at hm9 hp64
        simp only at hm9
        obtain ⟨ev9, hm9⟩ := hm9
        subst ev9
        have hrd9 : h18 rd = some (.inr (3, [.int (nI e.2.1), .ref buf, .int (nI k), .ref (bk ((cur + 1) % 10)), .int e.1, .int (nI at9), .int (nI st9), .int (nI kd9), .int (nI nu9), .int (nI may9)])) := hm9.2.2
        refine v_istore_n (pc' := 58) (i := 3) (L' := [(3, .int e.1), (2, .ref (bk ((cur + 1) % 10))), (0, .ref x), (1, .int (nI k))]) F dX6_load_57 rfl (by decide) rfl rfl ?_
        refine v_aload_n (pc' := 59) F dX6_load_58 rfl (j := 2) rfl rfl ?_
        refine v_aload_n (pc' := 60) F dX6_load_59 rfl (j := 2) rfl rfl ?_
        refine v_getf (pc' := 63) (v := .ref rd) F k_X6_load_6 g21 1 (by decide) m_X6_load_f16 rfl dX6_load_60 rfl ?_
        refine v_getf (pc' := 66) (v := .int (nI e.2.1)) F k_X6_load_3 hrd9 0 (by decide) m_X6_load_f83 rfl dX6_load_63 rfl ?_
        refine w_putf (pc' := 69) F k_X6_load_6 tyX6_ok nmX6 g21 7 (by decide) m_X6_load_f44 rfl  rfl rfl (show 7 < 10 by decide) [.ref buf, .ref rd, .ref bks, .ref oq, .ref rw, .ref orw, .int (nI 0), .int (nI e.2.1), .int (nI cur), .int (nI und)] rfl dX6_load_66 rfl (fun h26 a27 f28 => ?_)
        refine v_iload_n (pc' := 70) F dX6_load_69 rfl (j := 0) rfl rfl ?_
        refine v_if_eq (tgt := 75) (pc' := 73) F dX6_load_70 (by decide) rfl (fun c0 => absurd c0 hm9.1) (fun _ => ?_)
        refine v_iload_n (pc' := 74) F dX6_load_73 rfl (j := 0) rfl rfl ?_
        have hm9 : True ∧ e.1 ≠ 0 ∧ e.2.1 ≤ k ∧ True := ⟨trivial, hm9.1, hm9.2.1, trivial⟩
        have fr29 : gfr [x, rd, bk ((cur + 1) % 10), va2] h h26 := (gfr.t (gfr.mono f3 (by intro q9 z9 m9; apply z9; simp only [List.mem_cons, List.not_mem_nil, or_false] at m9 ⊢; omega)) (gfr.t (gfr.mono fR (by intro q9 z9 m9; apply z9; simp only [List.mem_cons, List.not_mem_nil, or_false] at m9 ⊢; omega)) (gfr.t (gfr.mono frq (by intro q9 z9 m9; apply z9; simp only [List.mem_cons, List.not_mem_nil, or_false] at m9 ⊢; omega)) (gfr.mono f28 (by intro q9 z9 m9; apply z9; simp only [List.mem_cons, List.not_mem_nil, or_false] at m9 ⊢; omega)))))
        have g30 := f28 _ _ (gnc (g_neC hb9 g21 (by decide)) gn0) hb9
        have g31 := f28 _ _ (gnc (Ne.symm (g_neA g21 hva9)) gn0) hva9
        have hB9 : isBk G h26 (bk ((cur + 1) % 10)) va2 D9.1 D9.2.1 D9.2.2.1 ad9 := ⟨g30, f9, g31, hfv9⟩
        have fr32 : gfr [x] h18 h26 := f28
        have pvx : gpv h18 h26 := gfr.pv fr32 (by intro a9 m9 ci9 fs9 c9 z9; rw [List.mem_singleton.mp m9, g21] at z9; cases z9; omega)
        have g33 := f28 _ _ (gnc ((g_neA hx hbks).symm) gn0) g23
        have g34 := f28 _ _ (gnc (g_neC hrd9 g21 (by decide)) gn0) hrd9
        exact v_iret F E (by omega) (by omega)  dX6_load_74 ⟨k, hk, rfl, fr29, ⟨_, _, _, some buf, some (bk ((cur + 1) % 10)), _, _, _, _, _, hnu9, g34⟩, D9, ad9, as9, w9, c9.pv pvx hB9, hr9, by rw [hpa]; exact ⟨rfl, hm9.2.1, hm9.2.2.1, ⟨a27, fb, g33, hfb⟩⟩⟩
      | inr q =>
        rw [hpa] at hm9 hp64
        simp only at hm9
        obtain ⟨ev9, hm9⟩ := hm9
        subst ev9
        have hrd9 : h18 rd = some (.inr (3, [.int (-1), .ref buf, .int (nI k), .ref (bk ((cur + 1) % 10)), .int (nI 0), .int (nI at9), .int (nI st9), .int (nI kd9), .int (nI nu9), .int (nI may9)])) := hm9.2
        refine v_istore_n (pc' := 58) (i := 3) (L' := [(3, .int (nI 0)), (2, .ref (bk ((cur + 1) % 10))), (0, .ref x), (1, .int (nI k))]) F dX6_load_57 rfl (by decide) rfl rfl ?_
        refine v_aload_n (pc' := 59) F dX6_load_58 rfl (j := 2) rfl rfl ?_
        refine v_aload_n (pc' := 60) F dX6_load_59 rfl (j := 2) rfl rfl ?_
        refine v_getf (pc' := 63) (v := .ref rd) F k_X6_load_6 g21 1 (by decide) m_X6_load_f16 rfl dX6_load_60 rfl ?_
        refine v_getf (pc' := 66) (v := .int (-1)) F k_X6_load_3 hrd9 0 (by decide) m_X6_load_f83 rfl dX6_load_63 rfl ?_
        refine w_putf (pc' := 69) F k_X6_load_6 tyX6_ok nmX6 g21 7 (by decide) m_X6_load_f44 rfl  rfl rfl (show 7 < 10 by decide) [.ref buf, .ref rd, .ref bks, .ref oq, .ref rw, .ref orw, .int (nI 0), .int (-1), .int (nI cur), .int (nI und)] rfl dX6_load_66 rfl (fun h35 a36 f37 => ?_)
        refine v_iload_n (pc' := 70) F dX6_load_69 rfl (j := 0) rfl rfl ?_
        refine w_if_eq (tgt := 75) (pc' := 73) F (by omega) dX6_load_70 (by decide) rfl (fun _ => ?_) (fun c0 => absurd c0 (by omega))
        refine v_aload_n (pc' := 76) F dX6_load_75 rfl (j := 2) rfl rfl ?_
        have g38 := f37 _ _ (gnc ((g_neA hx hbks).symm) gn0) g23
        have g39 := f37 _ _ (gnc (g_neC hb9 g21 (by decide)) gn0) hb9
        have g40 := f37 _ _ (gnc (Ne.symm (g_neA g21 hva9)) gn0) hva9
        have g41 := f37 _ _ (gnc (g_neC hrd9 g21 (by decide)) gn0) hrd9
        have g42 := f37 _ _ (gnc (Ne.symm (g_neA g21 g22)) gn0) g22
        refine v_callV (pc' := 79) (rt := none) (mcc := 0) (msc := 0) (As := []) (st := []) F (fun l => c_X6_keepDraft G z0 l ⟨a36, fb, g38, hfb⟩ hc hu) gX6_load_X6_keepDraft rfl hv_X6_keepDraft (by decide) (by decide) a36 rfl rfl rfl (Nat.le_of_ble_eq_true rfl) (by omega) (by omega) dX6_load_76 rfl (fun v44 h43 hq => ?_)
        obtain ⟨rfl, hX5, hf5⟩ := hq
        obtain ⟨hx5, -⟩ := id hX5
        refine v_aload_n (pc' := 80) F dX6_load_79 rfl (j := 1) rfl rfl ?_
        have g45 := hf5 _ _ (gnc (g_neC g39 a36 (by decide)) gn0) g39
        refine v_getf (pc' := 83) (v := .int (nI D9.1)) F k_X6_load_0 g45 1 (by decide) m_X6_load_f87 rfl dX6_load_80 rfl ?_
        have hm9 : True ∧ q.2 = D9 := ⟨trivial, hm9.1⟩
        have fr46 : gfr [x, rd, bk ((cur + 1) % 10), va2] h h43 := (gfr.t (gfr.mono f3 (by intro q9 z9 m9; apply z9; simp only [List.mem_cons, List.not_mem_nil, or_false] at m9 ⊢; omega)) (gfr.t (gfr.mono fR (by intro q9 z9 m9; apply z9; simp only [List.mem_cons, List.not_mem_nil, or_false] at m9 ⊢; omega)) (gfr.t (gfr.mono frq (by intro q9 z9 m9; apply z9; simp only [List.mem_cons, List.not_mem_nil, or_false] at m9 ⊢; omega)) (gfr.t (gfr.mono f37 (by intro q9 z9 m9; apply z9; simp only [List.mem_cons, List.not_mem_nil, or_false] at m9 ⊢; omega)) (gfr.mono hf5 (by intro q9 z9 m9; apply z9; simp only [List.mem_cons, List.not_mem_nil, or_false] at m9 ⊢; omega))))))
        have g47 := hf5 _ _ (gnc (Ne.symm (g_neA a36 g40)) gn0) g40
        have hB9 : isBk G h43 (bk ((cur + 1) % 10)) va2 D9.1 D9.2.1 D9.2.2.1 ad9 := ⟨g45, f9, g47, hfv9⟩
        have fr48 : gfr [x] h18 h43 := (gfr.t f37 hf5)
        have pvx : gpv h18 h43 := gfr.pv fr48 (by intro a9 m9 ci9 fs9 c9 z9; rw [List.mem_singleton.mp m9, g21] at z9; cases z9; omega)
        have g49 := hf5 _ _ (gnc ((g_neA hx hbks).symm) gn0) g38
        have g50 := hf5 _ _ (gnc (g_neC g41 a36 (by decide)) gn0) g41
        exact v_iret F E (by omega) (by omega)  dX6_load_83 ⟨k, hk, rfl, fr46, ⟨_, _, _, some buf, some (bk ((cur + 1) % 10)), _, _, _, _, _, hnu9, g50⟩, D9, ad9, as9, w9, c9.pv pvx hB9, hr9, by rw [hpa]; exact ⟨by rw [hm9.2], hm9.2, ⟨hx5, fb, g49, hfb⟩⟩⟩
