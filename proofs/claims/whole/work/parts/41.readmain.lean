theorem stQ.val {G : gG} {rd buf b va len : Nat} {t : Nat → Nat} {off er : Int32} {root : Nat} {r : PR} {h h' : gH} {v : Option Value} (q : stQ G rd buf b va len t off er root r h v h') : ∃ x : Int32, v = some (.int x) := by
  obtain ⟨-, D9, ad9, as9, -, -, -, -, hm⟩ := q
  cases r with
  | inl e => exact ⟨_, hm.1⟩
  | inr e => exact ⟨_, hm.1⟩
theorem pMain_e {t : Nat → Nat} {len m s o n : Nat} {may : Bool} {D : Dt} {e : Int32} (h0 : kdT t len s ≠ 0) (h : pSt t len may s D = .inl (e, o, n)) : pMain t len (m + 1) may s D = .inl (e, o, n) := by
  unfold pMain
  rw [if_neg h0, h]
theorem pMain_2 {t : Nat → Nat} {len m s s1 : Nat} {may : Bool} {D D1 : Dt} (h0 : kdT t len s ≠ 0) (h : pSt t len may s D = .inr (s1, D1)) (h3 : kdT t len s1 ≠ 3) : pMain t len (m + 1) may s D = .inl (-2, s1, D1.1) := by
  unfold pMain
  rw [if_neg h0, h]
  simp only
  rw [if_neg h3]
theorem pMain_o {t : Nat → Nat} {len m s s1 : Nat} {may : Bool} {D D1 : Dt} (h0 : kdT t len s ≠ 0) (h : pSt t len may s D = .inr (s1, D1)) (h3 : kdT t len s1 = 3) : pMain t len (m + 1) may s D = pMain t len m false (nxT t len s1) D1 := by
  rw [pMain.eq_def]
  simp only
  rw [if_neg h0, h]
  simp only
  rw [if_pos h3]
theorem pMain_0 {t : Nat → Nat} {len m s : Nat} {may : Bool} {D : Dt} (h0 : kdT t len s = 0) : pMain t len m may s D = .inr (s, D) := by
  cases m with
  | zero => rfl
  | succ m =>
    unfold pMain
    rw [if_pos h0]
theorem prN_mainS {t : Nat → Nat} {len m s : Nat} {may : Bool} {D : Dt} (h0 : kdT t len s ≠ 0) : prN (pSt t len may s D) ≤ prN (pMain t len (m + 1) may s D) := by
  cases hr : pSt t len may s D with
  | inl e => obtain ⟨e, o, n⟩ := e; rw [pMain_e h0 hr]; exact Nat.le_refl _
  | inr q =>
    obtain ⟨s1, D1⟩ := q
    by_cases h3 : kdT t len s1 = 3
    · rw [pMain_o h0 hr h3]; exact prN_main ..
    · rw [pMain_2 h0 hr h3]; exact Nat.le_refl _
theorem m_X3_read_f35 : Cond.fieldLink RX3 35 "SteadyQueues$SetupReader" "kind" "I" ∈ wsX3_read := by decide +kernel
theorem m_X3_read_f41 : Cond.fieldLink RX3 41 "SteadyQueues$SetupReader" "paceMayCome" "Z" ∈ wsX3_read := by decide +kernel
theorem hv_X3_readPace : yX3_readPace.cls = RX3 ∧ yX3_readPace.cls ≠ "java/lang/invoke/MethodHandle" ∧ yX3_readPace.cls ≠ "java/lang/invoke/VarHandle" ∧ (parseMethodDescriptor yX3_readPace.desc).map (fun d => d.parameters.length) = some 0 := by decide +kernel
theorem hv_X3_readPop : yX3_readPop.cls = RX3 ∧ yX3_readPop.cls ≠ "java/lang/invoke/MethodHandle" ∧ yX3_readPop.cls ≠ "java/lang/invoke/VarHandle" ∧ (parseMethodDescriptor yX3_readPop.desc).map (fun d => d.parameters.length) = some 0 := by decide +kernel
theorem hv_X3_readPush : yX3_readPush.cls = RX3 ∧ yX3_readPush.cls ≠ "java/lang/invoke/MethodHandle" ∧ yX3_readPush.cls ≠ "java/lang/invoke/VarHandle" ∧ (parseMethodDescriptor yX3_readPush.desc).map (fun d => d.parameters.length) = some 0 := by decide +kernel
set_option maxHeartbeats 4000000 in
set_option maxRecDepth 100000 in
theorem lpM_X3_read {G : gG} {z0 : Nat} {X : gX} {l : Launch} {post : Option Value → gH → Prop} {mc ms cells slots m i s root may : Nat} {mayb : Bool} {h : gH} {rd buf len b : Nat} {t : Nat → Nat} {f : Nat → Int32} {va : Nat} {D : Dt} {ad : Nat → Nat} {as : Nat → List Nat} (F : gF G z0 X cX3_read 6 RX3 wsX3_read (some .int) "read" 8 170 mc ms) (E : gE G z0 X post mc ms) (hlen : len ≤ 500) (ht : ∀ j, j < len → f j = sb_b (t j) ∧ t j < 256) (hmay : may ≤ 1) (hmb : mayb = true ↔ may = 1) (hbuf : h buf = some (oB G 500 f)) (hT : tkn h rd buf b len t (-1) (nI 0) may s) (w : wfD D) (c : clD G h b va D ad as) (hroot : ad 0 = root) (him : i + m = len) (hcc : cells + 11 * (prN (pMain t len m mayb s D) - D.1) ≤ mc) (hss : slots + 33 * (prN (pMain t len m mayb s D) - D.1) ≤ ms) (hp : ∀ v9 h9, rdQ G rd buf b va len root (pMain t len m mayb s D) h v9 h9 → post v9 h9) : gV G z0 X cells slots h 70 [(5, .int (nI i)), (4, .int (nI 1)), (3, .ref b), (2, .int (nI len)), (1, .ref buf), (0, .ref rd)] [] := by
  induction m generalizing i s D ad as h cells slots may mayb with
  | zero =>
    obtain ⟨hbs, nus, hls, h2s, hr⟩ := id hT
    obtain ⟨hb, fv, hva, hfv⟩ := id c.1
    refine v_iload (pc' := 72) F dX3_read_70  (j := 0) rfl rfl ?_
    refine v_aload_n (pc' := 73) F dX3_read_72 rfl (j := 5) rfl rfl ?_
    refine v_getf (pc' := 76) (v := .int (nI len)) F k_X3_read_3 hr 2 (by decide) m_X3_read_f19 rfl dX3_read_73 rfl ?_
    refine w_icmp_ge (tgt := 185) (pc' := 79) F (by omega) (by omega) dX3_read_76 (by decide) rfl (fun _ => ?_) (fun c0 => absurd c0 (by omega))
    refine v_aload_n (pc' := 186) F dX3_read_185 rfl (j := 5) rfl rfl ?_
    refine v_getf (pc' := 189) (v := .int (nI 0)) F k_X3_read_3 hr 4 (by decide) m_X3_read_f26 rfl dX3_read_186 rfl ?_
    exact v_iret F E (by omega) (by omega)  dX3_read_189 (hp _ _ ⟨gfr.rf, D, ad, as, w, c, hroot, by rw [(rfl : pMain t len 0 mayb s D = .inr (s, D))]; rfl, may, _, _, _, nus, hls, by rw [(rfl : pMain t len 0 mayb s D = .inr (s, D))]; exact ⟨rfl, rfl, hr⟩⟩)
  | succ m ih =>
    obtain ⟨hbs, nus, hls, h2s, hr⟩ := id hT
    obtain ⟨hb, fv, hva, hfv⟩ := id c.1
    have hks := kdT_b t len s
    refine v_iload (pc' := 72) F dX3_read_70  (j := 0) rfl rfl ?_
    refine v_aload_n (pc' := 73) F dX3_read_72 rfl (j := 5) rfl rfl ?_
    refine v_getf (pc' := 76) (v := .int (nI len)) F k_X3_read_3 hr 2 (by decide) m_X3_read_f19 rfl dX3_read_73 rfl ?_
    refine w_icmp_ge (tgt := 185) (pc' := 79) F (by omega) (by omega) dX3_read_76 (by decide) rfl (fun c0 => absurd c0 (by omega)) (fun _ => ?_)
    refine v_iload (pc' := 81) F dX3_read_79  (j := 1) rfl rfl ?_
    refine w_if_eq (tgt := 185) (pc' := 84) F (by omega) dX3_read_81 (by decide) rfl (fun c0 => absurd c0 (by omega)) (fun _ => ?_)
    refine v_aload_n (pc' := 85) F dX3_read_84 rfl (j := 5) rfl rfl ?_
    refine v_getf (pc' := 88) (v := .int (nI (kdT t len s))) F k_X3_read_3 hr 7 (by decide) m_X3_read_f35 rfl dX3_read_85 rfl ?_
    refine w_if_eq (tgt := 185) (pc' := 91) F (by omega) dX3_read_88 (by decide) rfl (fun k0 => ?_) (fun k0 => ?_)
    · refine v_aload_n (pc' := 186) F dX3_read_185 rfl (j := 5) rfl rfl ?_
      refine v_getf (pc' := 189) (v := .int (nI 0)) F k_X3_read_3 hr 4 (by decide) m_X3_read_f26 rfl dX3_read_186 rfl ?_
      exact v_iret F E (by omega) (by omega)  dX3_read_189 (hp _ _ ⟨gfr.rf, D, ad, as, w, c, hroot, by rw [pMain_0 k0]; rfl, may, _, _, _, nus, hls, by rw [pMain_0 k0]; exact ⟨rfl, rfl, hr⟩⟩)
    · have hS := prN_mainS (t := t) (len := len) (m := m) (may := mayb) (D := D) k0
      have hS0 := prN_st t len mayb s D
      have KE : ∀ (cx sx : Nat), cx ≤ mc → sx ≤ ms → ∀ (h2 : gH) (e : Int32) (o : Nat) (D' : Dt) (ad' : Nat → Nat) (as' : Nat → List Nat) (may9 at9 st9 kd9 nu9 : Nat), ((pSt t len mayb s D = .inl (e, o, D'.1) ∧ e ≠ 0 ∧ o ≤ len) ∨ ∃ s1, pSt t len mayb s D = .inr (s1, D') ∧ kdT t len s1 ≠ 3 ∧ e = -2 ∧ o = s1 ∧ o ≤ len) → wfD D' → clD G h2 b va D' ad' as' → ad' 0 = root → nu9 ≤ 1000 → h2 rd = some (.inr (3, [.int (nI o), .ref buf, .int (nI len), .ref b, .int e, .int (nI at9), .int (nI st9), .int (nI kd9), .int (nI nu9), .int (nI may9)])) → gfr [rd, b, va] h h2 → gV G z0 X cx sx h2 70 [(5, .int (nI (i + 1))), (4, .int (nI 0)), (3, .ref b), (2, .int (nI len)), (1, .ref buf), (0, .ref rd)] [] := by
        intro cx sx hcx hsx h2 e o D' ad' as' may9 at9 st9 kd9 nu9 hcase w' c' hr' hn' hrd' fr'
        have hE : pMain t len (m + 1) mayb s D = .inl (e, o, D'.1) ∧ e ≠ 0 ∧ o ≤ len := by
          rcases hcase with ⟨q1, q2, q3⟩ | ⟨s1, q1, q2, rfl, rfl, q3⟩
          · exact ⟨pMain_e k0 q1, q2, q3⟩
          · exact ⟨pMain_2 k0 q1 q2, by decide, q3⟩
        exact lpE_X3_read F E hcx hsx hlen (by omega) hrd' (hp _ _ ⟨fr', D', ad', as', w', c', hr', by rw [hE.1]; rfl, may9, at9, st9, kd9, nu9, hn', by rw [hE.1]; exact ⟨rfl, hE.2.1, hE.2.2, hrd'⟩⟩)
      have KO : ∀ (cx sx : Nat), cx ≤ cells + 11 * (prN (pSt t len mayb s D) - D.1) → sx ≤ slots + 33 * (prN (pSt t len mayb s D) - D.1) → ∀ (h2 : gH) (s1 : Nat) (D' : Dt) (ad' : Nat → Nat) (as' : Nat → List Nat), pSt t len mayb s D = .inr (s1, D') → kdT t len s1 = 3 → wfD D' → clD G h2 b va D' ad' as' → ad' 0 = root → tkn h2 rd buf b len t (-1) (nI 0) 0 (nxT t len s1) → h2 buf = some (oB G 500 f) → gfr [rd, b, va] h h2 → gV G z0 X cx sx h2 70 [(5, .int (nI (i + 1))), (4, .int (nI 1)), (3, .ref b), (2, .int (nI len)), (1, .ref buf), (0, .ref rd)] [] := by
        intro cx sx hcx hsx h2 s1 D' ad' as' q1 q2 w' c' hr' hT' hbuf' fr'
        have e9 := pMain_o (m := m) k0 q1 q2
        have e8 := prN_main t len m false (nxT t len s1) D'
        rw [q1] at hcx hsx hS0
        change cx ≤ cells + 11 * (D'.1 - D.1) at hcx
        change sx ≤ slots + 33 * (D'.1 - D.1) at hsx
        change D.1 ≤ D'.1 at hS0
        rw [e9] at hcc hss
        exact ih (i := i + 1) (by omega) (mayb := false) ⟨fun z => (by cases z), fun z => absurd z (by omega)⟩ hbuf' hT' w' c' hr' (by omega) (by omega) (by omega) (fun v9 h9 q9 => hp v9 h9 (by rw [e9]; exact q9.trans fr'))
      refine v_aload_n (pc' := 92) F dX3_read_91 rfl (j := 5) rfl rfl ?_
      refine v_getf (pc' := 95) (v := .int (nI (kdT t len s))) F k_X3_read_3 hr 7 (by decide) m_X3_read_f35 rfl dX3_read_92 rfl ?_
      refine v_iconst (pc' := 96) (v := nI 5) F dX3_read_95 (by decide) rfl ?_
      refine w_icmp_ne (tgt := 108) (pc' := 99) F (by omega) (by omega) dX3_read_96 (by decide) rfl (fun k5 => ?_) (fun k5 => ?_)
      · refine v_aload_n (pc' := 109) F dX3_read_108 rfl (j := 5) rfl rfl ?_
        refine v_getf (pc' := 112) (v := .int (nI (kdT t len s))) F k_X3_read_3 hr 7 (by decide) m_X3_read_f35 rfl dX3_read_109 rfl ?_
        refine v_bipush (pc' := 114) (v := nI 6) F dX3_read_112 (by decide) rfl ?_
        refine w_icmp_ne (tgt := 126) (pc' := 117) F (by omega) (by omega) dX3_read_114 (by decide) rfl (fun k6 => ?_) (fun k6 => ?_)
        · refine v_aload_n (pc' := 127) F dX3_read_126 rfl (j := 5) rfl rfl ?_
          refine v_getf (pc' := 130) (v := .int (nI (kdT t len s))) F k_X3_read_3 hr 7 (by decide) m_X3_read_f35 rfl dX3_read_127 rfl ?_
          refine v_bipush (pc' := 132) (v := nI 7) F dX3_read_130 (by decide) rfl ?_
          refine w_icmp_ne (tgt := 151) (pc' := 135) F (by omega) (by omega) dX3_read_132 (by decide) rfl (fun k7 => ?_) (fun k7 => ?_)
          · refine v_aload_n (pc' := 152) F dX3_read_151 rfl (j := 5) rfl rfl ?_
            refine v_bipush (pc' := 154) (v := (-2)) F dX3_read_152 (by decide) rfl ?_
            have hp9 : pSt t len mayb s D = .inl (-2, s, D.1) := by unfold pSt; rw [if_neg (show ¬ kdT t len s = 5 from k5), if_neg (show ¬ kdT t len s = 6 from k6), if_neg (fun z => k7 z.1)]
            rw [hp9] at KE KO hS hS0
            refine v_callV (pc' := 157) (rt := (some .boolean)) (mcc := 0) (msc := 0) (As := [.int (-2)]) (st := []) F (fun l => c_X3_fail G z0 l (-2) hr) gX3_read_X3_fail rfl hv_X3_fail (by decide) (by decide) hr rfl rfl rfl (Nat.le_of_ble_eq_true rfl) (by omega) (by omega) dX3_read_154 rfl (fun v2 h1 hq => ?_)
            obtain ⟨rfl, hq2, fq⟩ := hq
            refine v_istore (pc' := 159) (i := 4) (L' := [(4, .int (nI 0)), (5, .int (nI i)), (3, .ref b), (2, .int (nI len)), (1, .ref buf), (0, .ref rd)]) F dX3_read_157  (by decide) rfl rfl ?_
            refine v_sub (L' := [(5, .int (nI i)), (4, .int (nI 0)), (3, .ref b), (2, .int (nI len)), (1, .ref buf), (0, .ref rd)]) [1, 0, 2, 3, 4, 5] rfl ?_
            have g3 := fq _ _ (gnc (Ne.symm (g_neA hr hbuf)) gn0) hbuf
            exact lpS_X3_read (D := D) (r := .inl (-2, s, D.1)) (l := l) F (by omega) (by omega) hlen (by omega) ht g3 ⟨gfr.mono fq (by intro q9 z9 m9; apply z9; simp only [List.mem_cons, List.not_mem_nil, or_false] at m9 ⊢; omega), D, ad, as, w, c.fr hr fq, hroot, rfl, rfl, (show (-2 : Int32) ≠ 0 by decide), hbs, _, _, _, _, _, hls, hq2⟩ (KE _ _ (by omega) (by omega)) (KO _ _ (by omega) (by omega))
          · refine v_aload_n (pc' := 136) F dX3_read_135 rfl (j := 5) rfl rfl ?_
            refine v_getf (pc' := 139) (v := .int (nI may)) F k_X3_read_3 hr 9 (by decide) m_X3_read_f41 rfl dX3_read_136 rfl ?_
            refine w_if_eq (tgt := 151) (pc' := 142) F (by omega) dX3_read_139 (by decide) rfl (fun km => ?_) (fun km => ?_)
            · refine v_aload_n (pc' := 152) F dX3_read_151 rfl (j := 5) rfl rfl ?_
              refine v_bipush (pc' := 154) (v := (-2)) F dX3_read_152 (by decide) rfl ?_
              have hp9 : pSt t len mayb s D = .inl (-2, s, D.1) := by unfold pSt; rw [if_neg (show ¬ kdT t len s = 5 from k5), if_neg (show ¬ kdT t len s = 6 from k6), if_neg (fun z => by have := hmb.mp z.2; omega)]
              rw [hp9] at KE KO hS hS0
              refine v_callV (pc' := 157) (rt := (some .boolean)) (mcc := 0) (msc := 0) (As := [.int (-2)]) (st := []) F (fun l => c_X3_fail G z0 l (-2) hr) gX3_read_X3_fail rfl hv_X3_fail (by decide) (by decide) hr rfl rfl rfl (Nat.le_of_ble_eq_true rfl) (by omega) (by omega) dX3_read_154 rfl (fun v5 h4 hq => ?_)
              obtain ⟨rfl, hq2, fq⟩ := hq
              refine v_istore (pc' := 159) (i := 4) (L' := [(4, .int (nI 0)), (5, .int (nI i)), (3, .ref b), (2, .int (nI len)), (1, .ref buf), (0, .ref rd)]) F dX3_read_157  (by decide) rfl rfl ?_
              refine v_sub (L' := [(5, .int (nI i)), (4, .int (nI 0)), (3, .ref b), (2, .int (nI len)), (1, .ref buf), (0, .ref rd)]) [1, 0, 2, 3, 4, 5] rfl ?_
              have g6 := fq _ _ (gnc (Ne.symm (g_neA hr hbuf)) gn0) hbuf
              exact lpS_X3_read (D := D) (r := .inl (-2, s, D.1)) (l := l) F (by omega) (by omega) hlen (by omega) ht g6 ⟨gfr.mono fq (by intro q9 z9 m9; apply z9; simp only [List.mem_cons, List.not_mem_nil, or_false] at m9 ⊢; omega), D, ad, as, w, c.fr hr fq, hroot, rfl, rfl, (show (-2 : Int32) ≠ 0 by decide), hbs, _, _, _, _, _, hls, hq2⟩ (KE _ _ (by omega) (by omega)) (KO _ _ (by omega) (by omega))
            · refine v_aload_n (pc' := 143) F dX3_read_142 rfl (j := 5) rfl rfl ?_
              have hp9 : pSt t len mayb s D = pPace t len s D := by unfold pSt; rw [if_neg (show ¬ kdT t len s = 5 from k5), if_neg (show ¬ kdT t len s = 6 from k6), if_pos ⟨k7, hmb.mpr (by omega)⟩]
              rw [hp9] at KE KO hS hS0
              refine v_callV (pc' := 146) (rt := (some .boolean)) (mcc := 0) (msc := 0) (As := []) (st := []) F (fun l => c_X3_readPace G z0 l hlen hmay hbuf ht hT w c) gX3_read_X3_readPace rfl hv_X3_readPace (by decide) (by decide) hr rfl rfl rfl (Nat.le_of_ble_eq_true rfl) (by omega) (by omega) dX3_read_143 rfl (fun v8 h7 hq => ?_)
              obtain ⟨x9, rfl⟩ := hq.val
              refine v_istore (pc' := 148) (i := 4) (L' := [(4, .int x9), (5, .int (nI i)), (3, .ref b), (2, .int (nI len)), (1, .ref buf), (0, .ref rd)]) F dX3_read_146  (by decide) rfl rfl ?_
              refine v_goto (tgt := 159) F dX3_read_148 (by decide) ?_
              refine v_sub (L' := [(5, .int (nI i)), (4, .int x9), (3, .ref b), (2, .int (nI len)), (1, .ref buf), (0, .ref rd)]) [1, 0, 2, 3, 4, 5] rfl ?_
              have g9 := hq.1 _ _ (gnc (Ne.symm (g_neA hr hbuf)) (gnc (Ne.symm (g_neA hb hbuf)) (gnc (g_neL hbuf hva (by decide)) gn0))) hbuf
              exact lpS_X3_read (D := D) (l := l) F (by omega) (by omega) hlen (by omega) ht g9 (hroot ▸ hq) (KE _ _ (by omega) (by omega)) (KO _ _ (by omega) (by omega))
        · refine v_aload_n (pc' := 118) F dX3_read_117 rfl (j := 5) rfl rfl ?_
          have hp9 : pSt t len mayb s D = pPop t len s D := by unfold pSt; rw [if_neg (show ¬ kdT t len s = 5 from k5), if_pos k6]
          rw [hp9] at KE KO hS hS0
          refine v_callV (pc' := 121) (rt := (some .boolean)) (mcc := 11 * (prN (pPop t len s D) - D.1)) (msc := 33 * (prN (pPop t len s D) - D.1)) (As := []) (st := []) F (fun l => c_X3_readPop G z0 l hlen hmay hbuf ht hT w c) gX3_read_X3_readPop rfl hv_X3_readPop (by decide) (by decide) hr rfl rfl rfl (Nat.le_of_ble_eq_true rfl) (by omega) (by omega) dX3_read_118 rfl (fun v11 h10 hq => ?_)
          obtain ⟨x9, rfl⟩ := hq.val
          refine v_istore (pc' := 123) (i := 4) (L' := [(4, .int x9), (5, .int (nI i)), (3, .ref b), (2, .int (nI len)), (1, .ref buf), (0, .ref rd)]) F dX3_read_121  (by decide) rfl rfl ?_
          refine v_goto (tgt := 159) F dX3_read_123 (by decide) ?_
          refine v_sub (L' := [(5, .int (nI i)), (4, .int x9), (3, .ref b), (2, .int (nI len)), (1, .ref buf), (0, .ref rd)]) [1, 0, 2, 3, 4, 5] rfl ?_
          have g12 := hq.1 _ _ (gnc (Ne.symm (g_neA hr hbuf)) (gnc (Ne.symm (g_neA hb hbuf)) (gnc (g_neL hbuf hva (by decide)) gn0))) hbuf
          exact lpS_X3_read (D := D) (l := l) F (by omega) (by omega) hlen (by omega) ht g12 (hroot ▸ hq) (KE _ _ (by omega) (by omega)) (KO _ _ (by omega) (by omega))
      · refine v_aload_n (pc' := 100) F dX3_read_99 rfl (j := 5) rfl rfl ?_
        have hp9 : pSt t len mayb s D = pPush t len s D := by unfold pSt; rw [if_pos k5]
        rw [hp9] at KE KO hS hS0
        refine v_callV (pc' := 103) (rt := (some .boolean)) (mcc := 11 * (prN (pPush t len s D) - D.1)) (msc := 33 * (prN (pPush t len s D) - D.1)) (As := []) (st := []) F (fun l => c_X3_readPush G z0 l hlen hmay hbuf ht hT w c) gX3_read_X3_readPush rfl hv_X3_readPush (by decide) (by decide) hr rfl rfl rfl (Nat.le_of_ble_eq_true rfl) (by omega) (by omega) dX3_read_100 rfl (fun v14 h13 hq => ?_)
        obtain ⟨x9, rfl⟩ := hq.val
        refine v_istore (pc' := 105) (i := 4) (L' := [(4, .int x9), (5, .int (nI i)), (3, .ref b), (2, .int (nI len)), (1, .ref buf), (0, .ref rd)]) F dX3_read_103  (by decide) rfl rfl ?_
        refine v_goto (tgt := 159) F dX3_read_105 (by decide) ?_
        refine v_sub (L' := [(5, .int (nI i)), (4, .int x9), (3, .ref b), (2, .int (nI len)), (1, .ref buf), (0, .ref rd)]) [1, 0, 2, 3, 4, 5] rfl ?_
        have g15 := hq.1 _ _ (gnc (Ne.symm (g_neA hr hbuf)) (gnc (Ne.symm (g_neA hb hbuf)) (gnc (g_neL hbuf hva (by decide)) gn0))) hbuf
        exact lpS_X3_read (D := D) (l := l) F (by omega) (by omega) hlen (by omega) ht g15 (hroot ▸ hq) (KE _ _ (by omega) (by omega)) (KO _ _ (by omega) (by omega))
theorem m_X3_read_f15 : Cond.fieldLink RX3 15 "SteadyQueues$SetupReader" "text" "[B" ∈ wsX3_read := by decide +kernel
theorem m_X3_read_ml45 : Cond.methodLink RX3 45 Lib.Math.min.name ∈ wsX3_read := by decide +kernel
theorem m_X3_read_msmin : Cond.static Lib.Math.min.name ∈ wsX3_read := by decide +kernel
theorem m_X3_read_mi : Cond.initialized "java/lang/Math" ∈ wsX3_read := by decide +kernel
theorem m_X3_read_mcmin : Cond.code Lib.Math.min.name Lib.Math.min.code 2 (some .int) ∈ wsX3_read := by decide +kernel
theorem m_X3_read_f22 : Cond.fieldLink RX3 22 "SteadyQueues$SetupReader" "book" "LSteadyQueues$Book;" ∈ wsX3_read := by decide +kernel
theorem m_X3_read_f9 : Cond.fieldLink RX3 9 "SteadyQueues$SetupReader" "offsetOfError" "I" ∈ wsX3_read := by decide +kernel
theorem m_X3_read_f29 : Cond.fieldLink RX3 29 "SteadyQueues$SetupReader" "at" "I" ∈ wsX3_read := by decide +kernel
set_option maxHeartbeats 4000000 in
set_option maxRecDepth 100000 in
theorem c_X3_read (G : gG) (z0 : Nat) (l : Launch) {h : gH} {rd buf len b : Nat} {t : Nat → Nat} {f : Nat → Int32} {va : Nat} {ad : Nat → Nat} {as : Nat → List Nat} (hlen : len ≤ 500) (ht : ∀ j, j < len → f j = sb_b (t j) ∧ t j < 256) (hbuf : h buf = some (oB G 500 f)) (hR : (∃ (o9 e9 l9 : Int32) (tx bk9 : Option Nat) (at9 st9 kd9 nu9 may9 : Nat), nu9 ≤ 1000 ∧ h rd = some (.inr (3, [.int o9, va_rf tx, .int l9, va_rf bk9, .int e9, .int (nI at9), .int (nI st9), .int (nI kd9), .int (nI nu9), .int (nI may9)])))) (c : clD G h b va D0 ad as) : gC G z0 l yX3_read wsX3_read 8 170 [.ref rd, .ref buf, .int (nI len), .ref b] h (rdQ G rd buf b va len (ad 0) (pAll t len) h) (11 * (prN (pAll t len) - 1)) (33 * (prN (pAll t len) - 1)) := by
  obtain ⟨o9, e9, l9, tx, bk9, at9, st9, kd9, nu9, may9, hnu, hr⟩ := hR
  obtain ⟨hb, fv, hva, hfv⟩ := id c.1
  refine gC_of (cc := cX3_read) (nL := 6) (ret := (some .int)) (by decide) rfl (Nat.le_of_ble_eq_true rfl) ?_
  intro X F E _
  change gF G z0 X cX3_read 6 RX3 wsX3_read (some .int) "read" 8 170 _ _ at F
  show gV G z0 X 0 0 h 0 [(0, .ref rd), (1, .ref buf), (2, .int (nI len)), (3, .ref b)] []
  refine v_aload_n (pc' := 1) F dX3_read_0 rfl (j := 0) rfl rfl ?_
  refine v_aload_n (pc' := 2) F dX3_read_1 rfl (j := 1) rfl rfl ?_
  refine w_putf (pc' := 5) F k_X3_read_3 tyX3_ok nmX3 hr 1 (by decide) m_X3_read_f15 rfl  rfl rfl (show 1 < 10 by decide) [.int o9, .ref buf, .int l9, va_rf bk9, .int e9, .int (nI at9), .int (nI st9), .int (nI kd9), .int (nI nu9), .int (nI may9)] rfl dX3_read_2 rfl (fun h1 a2 f3 => ?_)
  refine v_aload_n (pc' := 6) F dX3_read_5 rfl (j := 0) rfl rfl ?_
  refine v_iload_n (pc' := 7) F dX3_read_6 rfl (j := 2) rfl rfl ?_
  refine v_aload_n (pc' := 8) F dX3_read_7 rfl (j := 1) rfl rfl ?_
  have g4 := f3 _ _ (gnc (Ne.symm (g_neA hr hbuf)) gn0) hbuf
  refine w_alenB (pc' := 9) F g4 dX3_read_8 rfl ?_
  refine v_mmin (pc' := 12) (v := nI (min len 500)) F m_X3_read_ml45 m_X3_read_msmin m_X3_read_mi m_X3_read_mcmin (by decide) (Nat.le_of_ble_eq_true rfl) (by omega) (by omega) (g_minn (by omega) (by omega)) dX3_read_9 rfl ?_
  rw [show min len 500 = len by omega]
  refine w_putf (pc' := 15) F k_X3_read_3 tyX3_ok nmX3 a2 2 (by decide) m_X3_read_f19 rfl  rfl rfl (show 2 < 10 by decide) [.int o9, .ref buf, .int (nI len), va_rf bk9, .int e9, .int (nI at9), .int (nI st9), .int (nI kd9), .int (nI nu9), .int (nI may9)] rfl dX3_read_12 rfl (fun h5 a6 f7 => ?_)
  refine v_aload_n (pc' := 16) F dX3_read_15 rfl (j := 0) rfl rfl ?_
  refine v_aload_n (pc' := 17) F dX3_read_16 rfl (j := 3) rfl rfl ?_
  refine w_putf (pc' := 20) F k_X3_read_3 tyX3_ok nmX3 a6 3 (by decide) m_X3_read_f22 rfl  rfl rfl (show 3 < 10 by decide) [.int o9, .ref buf, .int (nI len), .ref b, .int e9, .int (nI at9), .int (nI st9), .int (nI kd9), .int (nI nu9), .int (nI may9)] rfl dX3_read_17 rfl (fun h8 a9 f10 => ?_)
  refine v_aload_n (pc' := 21) F dX3_read_20 rfl (j := 0) rfl rfl ?_
  refine v_iconst (pc' := 22) (v := nI 0) F dX3_read_21 (by decide) rfl ?_
  refine w_putf (pc' := 25) F k_X3_read_3 tyX3_ok nmX3 a9 4 (by decide) m_X3_read_f26 rfl  rfl rfl (show 4 < 10 by decide) [.int o9, .ref buf, .int (nI len), .ref b, .int (nI 0), .int (nI at9), .int (nI st9), .int (nI kd9), .int (nI nu9), .int (nI may9)] rfl dX3_read_22 rfl (fun h11 a12 f13 => ?_)
  refine v_aload_n (pc' := 26) F dX3_read_25 rfl (j := 0) rfl rfl ?_
  refine v_iconst (pc' := 27) (v := (-1)) F dX3_read_26 (by decide) rfl ?_
  refine w_putf (pc' := 30) F k_X3_read_3 tyX3_ok nmX3 a12 0 (by decide) m_X3_read_f9 rfl  rfl rfl (show 0 < 10 by decide) [.int (-1), .ref buf, .int (nI len), .ref b, .int (nI 0), .int (nI at9), .int (nI st9), .int (nI kd9), .int (nI nu9), .int (nI may9)] rfl dX3_read_27 rfl (fun h14 a15 f16 => ?_)
  refine v_aload_n (pc' := 31) F dX3_read_30 rfl (j := 0) rfl rfl ?_
  refine v_iconst (pc' := 32) (v := nI 0) F dX3_read_31 (by decide) rfl ?_
  refine w_putf (pc' := 35) F k_X3_read_3 tyX3_ok nmX3 a15 5 (by decide) m_X3_read_f29 rfl  rfl rfl (show 5 < 10 by decide) [.int (-1), .ref buf, .int (nI len), .ref b, .int (nI 0), .int (nI 0), .int (nI st9), .int (nI kd9), .int (nI nu9), .int (nI may9)] rfl dX3_read_32 rfl (fun h17 a18 f19 => ?_)
  refine v_aload_n (pc' := 36) F dX3_read_35 rfl (j := 0) rfl rfl ?_
  refine v_iconst (pc' := 37) (v := nI 1) F dX3_read_36 (by decide) rfl ?_
  refine w_putf (pc' := 40) F k_X3_read_3 tyX3_ok nmX3 a18 9 (by decide) m_X3_read_f41 rfl  (by decide) rfl (show 9 < 10 by decide) [.int (-1), .ref buf, .int (nI len), .ref b, .int (nI 0), .int (nI 0), .int (nI st9), .int (nI kd9), .int (nI nu9), .int (nI 1)] rfl dX3_read_37 rfl (fun h20 a21 f22 => ?_)
  refine v_aload_n (pc' := 41) F dX3_read_40 rfl (j := 0) rfl rfl ?_
  have g23 := f7 _ _ (gnc (Ne.symm (g_neA a2 g4)) gn0) g4
  have g24 := f10 _ _ (gnc (Ne.symm (g_neA a6 g23)) gn0) g23
  have g25 := f13 _ _ (gnc (Ne.symm (g_neA a9 g24)) gn0) g24
  have g26 := f16 _ _ (gnc (Ne.symm (g_neA a12 g25)) gn0) g25
  have g27 := f19 _ _ (gnc (Ne.symm (g_neA a15 g26)) gn0) g26
  have g28 := f22 _ _ (gnc (Ne.symm (g_neA a18 g27)) gn0) g27
  have hini : h20 rd = some (.inr (3, [.int (-1), .ref buf, .int (nI len), .ref b, .int (nI 0), .int (nI 0), .int (nI st9), .int (nI kd9), .int (nI nu9), .int (nI 1)])) := a21
  have fr29 : gfr [rd] h h20 := (gfr.t f3 (gfr.t f7 (gfr.t f10 (gfr.t f13 (gfr.t f16 (gfr.t f19 f22))))))
  refine v_callV (pc' := 44) (rt := none) (mcc := 0) (msc := 0) (As := []) (st := []) F (fun l => c_X3_readToken G z0 l hlen (by omega) g28 ht hini (Nat.zero_le _)) gX3_read_X3_readToken rfl hv_X3_readToken (by decide) (by decide) a21 rfl rfl rfl (Nat.le_of_ble_eq_true rfl) (by omega) (by omega) dX3_read_41 rfl (fun v31 h30 hq => ?_)
  obtain ⟨rfl, hr1, fr1⟩ := hq
  obtain ⟨s1, es1⟩ : ∃ s9, s9 = sk t len 0 := ⟨_, rfl⟩
  have hbs1 : s1 ≤ len := by rw [es1]; exact (sk_b t (Nat.zero_le _)).2
  have hks1 := kdT_b t len s1
  obtain ⟨nus1, hns1⟩ : ∃ u9, u9 = nuT t len s1 nu9 := ⟨_, rfl⟩
  have hls1 : nus1 ≤ 1000 := by rw [hns1]; exact nuT_b t len s1 hnu
  have h2s1 : kdT t len s1 = 2 → nus1 = min 1000 (vl t len s1) := fun z => by rw [hns1]; exact kd2 z
  have hxs1 : h30 rd = some (.inr (3, [.int (-1), .ref buf, .int (nI len), .ref b, .int (nI 0), .int (nI (enT t len s1)), .int (nI s1), .int (nI (kdT t len s1)), .int (nI nus1), .int (nI 1)])) := by rw [hns1, es1]; exact hr1
  refine v_aload_n (pc' := 45) F dX3_read_44 rfl (j := 0) rfl rfl ?_
  refine v_iconst (pc' := 46) (v := nI 4) F dX3_read_45 (by decide) rfl ?_
  have g32 := fr1 _ _ (gnc (Ne.symm (g_neA a21 g28)) gn0) g28
  refine v_callV (pc' := 49) (rt := (some .boolean)) (mcc := 0) (msc := 0) (As := [.int (nI 4)]) (st := []) F (fun l => c_X3_pass G z0 l hlen (by omega) g32 ht hxs1 (enT_b t hbs1).2 (by omega) (by omega)) gX3_read_X3_pass rfl hv_X3_pass (by decide) (by decide) hxs1 rfl rfl rfl (Nat.le_of_ble_eq_true rfl) (by omega) (by omega) dX3_read_46 rfl (fun v34 h33 hq => ?_)
  rcases hq with ⟨kcs1, rfl, hps2, fps2⟩ | ⟨kcs1, rfl, hps2, fps2⟩
  · obtain ⟨s2, es2⟩ : ∃ s9, s9 = nxT t len s1 := ⟨_, rfl⟩
    have hbs2 : s2 ≤ len := by rw [es2]; exact (sk_b t (enT_b t hbs1).2).2
    have hks2 := kdT_b t len s2
    obtain ⟨nus2, hns2⟩ : ∃ u9, u9 = nuT t len s2 nus1 := ⟨_, rfl⟩
    have hls2 : nus2 ≤ 1000 := by rw [hns2]; exact nuT_b t len s2 hls1
    have h2s2 : kdT t len s2 = 2 → nus2 = min 1000 (vl t len s2) := fun z => by rw [hns2]; exact kd2 z
    have hxs2 : h33 rd = some (.inr (3, [.int (-1), .ref buf, .int (nI len), .ref b, .int (nI 0), .int (nI (enT t len s2)), .int (nI s2), .int (nI (kdT t len s2)), .int (nI nus2), .int (nI 1)])) := by rw [hns2, es2]; exact hps2
    refine w_if_eq (tgt := 64) (pc' := 52) F (by omega) dX3_read_49 (by decide) rfl (fun c0 => absurd c0 (by omega)) (fun _ => ?_)
    refine v_aload_n (pc' := 53) F dX3_read_52 rfl (j := 0) rfl rfl ?_
    refine v_iconst (pc' := 54) (v := nI 3) F dX3_read_53 (by decide) rfl ?_
    have g35 := fps2 _ _ (gnc (Ne.symm (g_neA hxs1 g32)) gn0) g32
    refine v_callV (pc' := 57) (rt := (some .boolean)) (mcc := 0) (msc := 0) (As := [.int (nI 3)]) (st := []) F (fun l => c_X3_pass G z0 l hlen (by omega) g35 ht hxs2 (enT_b t hbs2).2 (by omega) (by omega)) gX3_read_X3_pass rfl hv_X3_pass (by decide) (by decide) hxs2 rfl rfl rfl (Nat.le_of_ble_eq_true rfl) (by omega) (by omega) dX3_read_54 rfl (fun v37 h36 hq => ?_)
    rcases hq with ⟨kcs2, rfl, hps3, fps3⟩ | ⟨kcs2, rfl, hps3, fps3⟩
    · obtain ⟨s3, es3⟩ : ∃ s9, s9 = nxT t len s2 := ⟨_, rfl⟩
      have hbs3 : s3 ≤ len := by rw [es3]; exact (sk_b t (enT_b t hbs2).2).2
      have hks3 := kdT_b t len s3
      obtain ⟨nus3, hns3⟩ : ∃ u9, u9 = nuT t len s3 nus2 := ⟨_, rfl⟩
      have hls3 : nus3 ≤ 1000 := by rw [hns3]; exact nuT_b t len s3 hls2
      have h2s3 : kdT t len s3 = 2 → nus3 = min 1000 (vl t len s3) := fun z => by rw [hns3]; exact kd2 z
      have hxs3 : h36 rd = some (.inr (3, [.int (-1), .ref buf, .int (nI len), .ref b, .int (nI 0), .int (nI (enT t len s3)), .int (nI s3), .int (nI (kdT t len s3)), .int (nI nus3), .int (nI 1)])) := by rw [hns3, es3]; exact hps3
      refine w_if_eq (tgt := 64) (pc' := 60) F (by omega) dX3_read_57 (by decide) rfl (fun c0 => absurd c0 (by omega)) (fun _ => ?_)
      refine v_iconst (pc' := 61) (v := nI 1) F dX3_read_60 (by decide) rfl ?_
      refine v_goto (tgt := 65) F dX3_read_61 (by decide) ?_
      refine v_istore (pc' := 67) (i := 4) (L' := [(4, .int (nI 1)), (0, .ref rd), (1, .ref buf), (2, .int (nI len)), (3, .ref b)]) F dX3_read_65  (by decide) rfl rfl ?_
      refine v_iconst (pc' := 68) (v := nI 0) F dX3_read_67 (by decide) rfl ?_
      refine v_istore (pc' := 70) (i := 5) (L' := [(5, .int (nI 0)), (4, .int (nI 1)), (0, .ref rd), (1, .ref buf), (2, .int (nI len)), (3, .ref b)]) F dX3_read_68  (by decide) rfl rfl ?_
      refine v_sub (L' := [(5, .int (nI 0)), (4, .int (nI 1)), (3, .ref b), (2, .int (nI len)), (1, .ref buf), (0, .ref rd)]) [0, 1, 5, 4, 3, 2] rfl ?_
      have fr38 : gfr [rd] h h36 := (gfr.t f3 (gfr.t f7 (gfr.t f10 (gfr.t f13 (gfr.t f16 (gfr.t f19 (gfr.t f22 (gfr.t fr1 (gfr.t fps2 fps3)))))))))
      have hE : pAll t len = pMain t len len true s3 D0 := by unfold pAll; rw [← es1, if_neg (fun z => z kcs1), ← es2, if_neg (fun z => z kcs2), ← es3]
      rw [hE] at E F
      have g39 := fps3 _ _ (gnc (Ne.symm (g_neA hxs2 g35)) gn0) g35
      exact lpM_X3_read (l := l) (m := len) (mayb := true) F E hlen ht (by omega) ⟨fun _ => rfl, fun _ => rfl⟩ g39 ⟨hbs3, nus3, hls3, h2s3, hxs3⟩ wfD.d0 (c.fr hr fr38) rfl (by omega) (by show _ ≤ 11 * (_ - 1); change _ + 11 * (_ - 1) ≤ _; omega) (by show _ ≤ 33 * (_ - 1); change _ + 33 * (_ - 1) ≤ _; omega) (fun v9 h9 q9 => q9.trans (gfr.mono fr38 (by intro q9 z9 m9; apply z9; simp only [List.mem_cons, List.not_mem_nil, or_false] at m9 ⊢; omega)))
    · refine w_if_eq (tgt := 64) (pc' := 60) F (by omega) dX3_read_57 (by decide) rfl (fun _ => ?_) (fun c0 => absurd c0 (by omega))
      refine v_iconst (pc' := 65) (v := nI 0) F dX3_read_64 (by decide) rfl ?_
      refine v_istore (pc' := 67) (i := 4) (L' := [(4, .int (nI 0)), (0, .ref rd), (1, .ref buf), (2, .int (nI len)), (3, .ref b)]) F dX3_read_65  (by decide) rfl rfl ?_
      refine v_iconst (pc' := 68) (v := nI 0) F dX3_read_67 (by decide) rfl ?_
      refine v_istore (pc' := 70) (i := 5) (L' := [(5, .int (nI 0)), (4, .int (nI 0)), (0, .ref rd), (1, .ref buf), (2, .int (nI len)), (3, .ref b)]) F dX3_read_68  (by decide) rfl rfl ?_
      refine v_sub (L' := [(5, .int (nI 0)), (4, .int (nI 0)), (3, .ref b), (2, .int (nI len)), (1, .ref buf), (0, .ref rd)]) [0, 1, 5, 4, 3, 2] rfl ?_
      have fr40 : gfr [rd] h h36 := (gfr.t f3 (gfr.t f7 (gfr.t f10 (gfr.t f13 (gfr.t f16 (gfr.t f19 (gfr.t f22 (gfr.t fr1 (gfr.t fps2 fps3)))))))))
      have hE : pAll t len = .inl (-2, s2, 1) := by unfold pAll; rw [← es1, if_neg (fun z => z kcs1), ← es2, if_pos kcs2]
      exact lpE_X3_read F E (by omega) (by omega) hlen (by omega) hps3 ⟨gfr.mono fr40 (by intro q9 z9 m9; apply z9; simp only [List.mem_cons, List.not_mem_nil, or_false] at m9 ⊢; omega), D0, ad, as, wfD.d0, c.fr hr fr40, rfl, by rw [hE]; rfl, _, _, _, _, _, hls2, by rw [hE]; exact ⟨rfl, by show (-2 : Int32) ≠ 0; decide, hbs2, hps3⟩⟩
  · refine w_if_eq (tgt := 64) (pc' := 52) F (by omega) dX3_read_49 (by decide) rfl (fun _ => ?_) (fun c0 => absurd c0 (by omega))
    refine v_iconst (pc' := 65) (v := nI 0) F dX3_read_64 (by decide) rfl ?_
    refine v_istore (pc' := 67) (i := 4) (L' := [(4, .int (nI 0)), (0, .ref rd), (1, .ref buf), (2, .int (nI len)), (3, .ref b)]) F dX3_read_65  (by decide) rfl rfl ?_
    refine v_iconst (pc' := 68) (v := nI 0) F dX3_read_67 (by decide) rfl ?_
    refine v_istore (pc' := 70) (i := 5) (L' := [(5, .int (nI 0)), (4, .int (nI 0)), (0, .ref rd), (1, .ref buf), (2, .int (nI len)), (3, .ref b)]) F dX3_read_68  (by decide) rfl rfl ?_
    refine v_sub (L' := [(5, .int (nI 0)), (4, .int (nI 0)), (3, .ref b), (2, .int (nI len)), (1, .ref buf), (0, .ref rd)]) [0, 1, 5, 4, 3, 2] rfl ?_
    have fr41 : gfr [rd] h h33 := (gfr.t f3 (gfr.t f7 (gfr.t f10 (gfr.t f13 (gfr.t f16 (gfr.t f19 (gfr.t f22 (gfr.t fr1 fps2))))))))
    have hE : pAll t len = .inl (-2, s1, 1) := by unfold pAll; rw [← es1, if_pos kcs1]
    exact lpE_X3_read F E (by omega) (by omega) hlen (by omega) hps2 ⟨gfr.mono fr41 (by intro q9 z9 m9; apply z9; simp only [List.mem_cons, List.not_mem_nil, or_false] at m9 ⊢; omega), D0, ad, as, wfD.d0, c.fr hr fr41, rfl, by rw [hE]; rfl, _, _, _, _, _, hls1, by rw [hE]; exact ⟨rfl, by show (-2 : Int32) ≠ 0; decide, hbs1, hps2⟩⟩
