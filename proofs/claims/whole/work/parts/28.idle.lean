theorem k_X6_idleIn_6 : gCl wsX6_idleIn 6 RX6 TX6 10 := ⟨by decide +kernel, rfl⟩
theorem m_X6_idleIn_f22 : Cond.fieldLink RX6 22 "SteadyQueues" "books" "[LSteadyQueues$Book;" ∈ wsX6_idleIn := by decide +kernel
theorem m_X6_idleIn_f47 : Cond.fieldLink RX6 47 "SteadyQueues" "current" "I" ∈ wsX6_idleIn := by decide +kernel
theorem k_X6_idleIn_0 : gCl wsX6_idleIn 0 RX0 TX0 4 := ⟨by decide +kernel, rfl⟩
theorem m_X6_idleIn_f175 : Cond.fieldLink RX6 175 "SteadyQueues$Book" "pace" "I" ∈ wsX6_idleIn := by decide +kernel
theorem k_X6_idleIn_5 : gCl wsX6_idleIn 5 RX5 TX5 9 := ⟨by decide +kernel, rfl⟩
theorem m_X6_idleIn_f160 : Cond.fieldLink RX6 160 "SteadyQueues$Version" "turn" "LSteadyQueues$Turn;" ∈ wsX6_idleIn := by decide +kernel
theorem k_X6_idleIn_4 : gCl wsX6_idleIn 4 RX4 TX4 6 := ⟨by decide +kernel, rfl⟩
theorem m_X6_idleIn_f164 : Cond.fieldLink RX6 164 "SteadyQueues$Turn" "kind" "I" ∈ wsX6_idleIn := by decide +kernel
theorem isVt.both {h : gH} {v t dp st : Nat} {par : Option Nat} {pu : Int32} {q : mQ} (w : isVt h v t par pu dp q st) : ∃ a9 b9 : Option Nat, h v = some (.inr (5, [va_rf par, .int pu, .int (nI dp), .ref t, va_rf a9, va_rf b9, .int (nI q.2.2.1), .int (nI q.2.2.2.1), .int (nI st)])) ∧ ∃ x3 x4 x5 x6 : Option Nat, h t = some (.inr (4, [.int (nI q.2.2.2.2.1), .int (nI q.2.2.2.2.2.1), va_rf x3, va_rf x4, va_rf x5, va_rf x6])) := by
  obtain ⟨f, r, fl, rl, k, ok, oF, nF, oR, nR⟩ := q
  obtain ⟨a, b, h1, h2, h3, h4⟩ := w
  obtain ⟨x3, x4, x5, x6, h5, -⟩ := h4
  exact ⟨a, b, h1, x3, x4, x5, x6, h5⟩
set_option maxHeartbeats 4000000 in
set_option maxRecDepth 100000 in
theorem lp_X6_idleIn {G : gG} {z0 : Nat} {X : gX} {post : Option Value → gH → Prop} {mc ms cells slots m k L j tr t av dp st : Nat} {par : Option Nat} {pu : Int32} {os : List mO} {fb f : Nat → Option Nat} {h : gH} {x buf rd bks oq rw orw bl cur und : Nat} {off : Int32} {bk : Nat → Nat} {va n pc dr : Nat} {ad : Nat → Nat} (F : gF G z0 X cX6_idleIn 6 RX6 wsX6_idleIn (some .int) "idleIn" 7 112 mc ms) (E : gE G z0 X post mc ms) (hfb : ∀ i, i < 10 → fb i = some (bk i)) (hc : cur < 10) (hpc : 2 ≤ pc ∧ pc ≤ 4) (hL : L < 64) (hcc : cells + 8 * m ≤ mc) (hss : slots + 16 * m ≤ ms) (hO : wOk os) (hol : os.length + m < 200) (hV : isVt h tr t par pu dp (qOf os).1 st) (hx : h x = some (.inr (6, [.ref buf, .ref rd, .ref bks, .ref oq, .ref rw, .ref orw, .int (nI bl), .int off, .int (nI cur), .int (nI und)]))) (hbks : h bks = some (oQ G 10 fb)) (hb : h (bk cur) = some (.inr (0, [.ref va, .int (nI n), .int (nI pc), .int (nI dr)]))) (hva : h va = some (oV G 64 f)) (hm : (wVals os).length = m) (hkm : k + m = L + 1) (hp : ∀ h', gfr [tr, t] h h' → post (some (.int (idF pc os m k))) h') : gV G z0 X cells slots h 37 [(5, .int (nI k)), (4, .int (nI L)), (3, .ref tr), (2, .ref av), (1, .int (nI j)), (0, .ref x)] [] := by
  induction m generalizing k os h cells slots st with
  | zero =>
    refine v_iload (pc' := 39) F dX6_idleIn_37  (j := 0) rfl rfl ?_
    refine v_iload (pc' := 41) F dX6_idleIn_39  (j := 1) rfl rfl ?_
    refine w_icmp_gt (tgt := 83) (pc' := 44) F (by omega) (by omega) dX6_idleIn_41 (by decide) rfl (fun _ => ?_) (fun c0 => absurd c0 (by omega))
    refine v_iconst (pc' := 84) (v := (-1)) F dX6_idleIn_83 (by decide) rfl ?_
    exact v_iret F E (by omega) (by omega)  dX6_idleIn_84 (by have := hp h gfr.rf; unfold idF at this; exact this)
  | succ m ih =>
    have hJ := qOf_J hO
    have hqf := qOf_fl hO
    have hqs := qOf_small hO
    obtain ⟨y, ys, hys⟩ : ∃ y ys, wVals os = y :: ys := by
      cases hw : wVals os with
      | nil => rw [hw] at hm; simp at hm
      | cons y ys => exact ⟨y, ys, rfl⟩
    have hO2 : wOk ((-1, pc) :: os) := ⟨hO, hpc.1, hpc.2, fun _ z => (by rw [hys] at z; cases z), fun z => absurd rfl z⟩
    have hw2 : wVals ((-1, pc) :: os) = ys := by show (if (-1 : Int32) = -1 then (wVals os).tail else _) = ys; rw [if_pos rfl, hys]; rfl
    rw [hys] at hJ hm
    simp only [List.length_cons] at hm
    have hpre := qTake_pre (p := pc) hpc.1 hJ
    have hfl := qTake_fl (qOf os).1
    have htk := hJ.take
    have hq3 := qOf_small hO2
    obtain ⟨fsq, hqk⟩ := hV.kind
    obtain ⟨fst, htq⟩ := hV.tkind
    refine v_iload (pc' := 39) F dX6_idleIn_37  (j := 0) rfl rfl ?_
    refine v_iload (pc' := 41) F dX6_idleIn_39  (j := 1) rfl rfl ?_
    refine w_icmp_gt (tgt := 83) (pc' := 44) F (by omega) (by omega) dX6_idleIn_41 (by decide) rfl (fun c0 => absurd c0 (by omega)) (fun _ => ?_)
    refine v_aload_n (pc' := 45) F dX6_idleIn_44 rfl (j := 2) rfl rfl ?_
    refine v_callV (pc' := 48) (rt := none) (mcc := 0) (msc := 0) (As := []) (st := []) F (fun l => c_X5_takeFirst G z0 l hV htk.1 (by omega) (by omega) htk.2.2) gX6_idleIn_X5_takeFirst rfl hv_X5_takeFirst (by decide) (by decide) hqk rfl rfl rfl (Nat.le_of_ble_eq_true rfl) (by omega) (by omega) dX6_idleIn_45 rfl (fun v2 h1 hq => ?_)
    obtain ⟨rfl, hVp, hfp⟩ := hq
    obtain ⟨fsq2, hqk2⟩ := hVp.kind
    obtain ⟨fst2, htk42⟩ := hVp.tkind
    refine v_aload_n (pc' := 49) F dX6_idleIn_48 rfl (j := 2) rfl rfl ?_
    refine v_aload_n (pc' := 50) F dX6_idleIn_49 rfl (j := 5) rfl rfl ?_
    have g3 := hfp _ _ (gnc (g_neC hx hqk (by decide)) (gnc (g_neC hx htq (by decide)) gn0)) hx
    refine v_getf (pc' := 53) (v := .ref bks) F k_X6_idleIn_6 g3 2 (by decide) m_X6_idleIn_f22 rfl dX6_idleIn_50 rfl ?_
    refine v_aload_n (pc' := 54) F dX6_idleIn_53 rfl (j := 5) rfl rfl ?_
    refine v_getf (pc' := 57) (v := .int (nI cur)) F k_X6_idleIn_6 g3 8 (by decide) m_X6_idleIn_f47 rfl dX6_idleIn_54 rfl ?_
    have g4 := hfp _ _ (gnc (Ne.symm (g_neA hqk hbks)) (gnc (Ne.symm (g_neA htq hbks)) gn0)) hbks
    refine w_qald (pc' := 58) (v := some (bk cur)) F g4 (by omega) (by omega) (hfb cur (by omega)) dX6_idleIn_57 rfl ?_
    have g5 := hfp _ _ (gnc (g_neC hb hqk (by decide)) (gnc (g_neC hb htq (by decide)) gn0)) hb
    refine v_getf (pc' := 61) (v := .int (nI pc)) F k_X6_idleIn_0 g5 2 (by decide) m_X6_idleIn_f175 rfl dX6_idleIn_58 rfl ?_
    refine v_callV (pc' := 64) (rt := none) (mcc := 2 * pc) (msc := 4 * pc) (As := [.int (nI pc)]) (st := []) F (fun l => c_X5_settle G z0 l (by omega) (b := os.length) (by omega) (by omega) hpre.M hVp) gX6_idleIn_X5_settle rfl hv_X5_settle (by decide) (by decide) hqk2 rfl rfl rfl (Nat.le_of_ble_eq_true rfl) (by omega) (by omega) dX6_idleIn_61 rfl (fun v7 h6 hq => ?_)
    obtain ⟨rfl, hVs, hfs⟩ := hq
    have hVs2 : isVt _ tr t par pu dp (qOf ((-1, pc) :: os)).1 _ := hVs
    obtain ⟨a9, b9, hqk3, htk43⟩ : ∃ a9 b9, h6 tr = some (.inr (5, [va_rf par, .int pu, .int (nI dp), .ref t, va_rf a9, va_rf b9, .int (nI (qOf ((-1, pc) :: os)).1.2.2.1), .int (nI (qOf ((-1, pc) :: os)).1.2.2.2.1), .int (nI (qSettle pc (qTake (qOf os).1)).2)])) ∧ ∃ x3 x4 x5 x6 : Option Nat, h6 t = some (.inr (4, [.int (nI (qOf ((-1, pc) :: os)).1.2.2.2.2.1), .int (nI (qOf ((-1, pc) :: os)).1.2.2.2.2.2.1), va_rf x3, va_rf x4, va_rf x5, va_rf x6])) := hVs2.both
    obtain ⟨x3, x4, x5, x6, htk43⟩ := htk43
    refine v_aload_n (pc' := 65) F dX6_idleIn_64 rfl (j := 2) rfl rfl ?_
    refine v_getf (pc' := 68) (v := .ref t) F k_X6_idleIn_5 hqk3 3 (by decide) m_X6_idleIn_f160 rfl dX6_idleIn_65 rfl ?_
    refine v_getf (pc' := 71) (v := .int (nI ((qOf ((-1, pc) :: os)).1.2.2.2.2.1))) F k_X6_idleIn_4 htk43 0 (by decide) m_X6_idleIn_f164 rfl dX6_idleIn_68 rfl ?_
    have fr8 : gfr [tr, t] h h6 := (gfr.t hfp hfs)
    have g9 := hfs _ _ (gnc (g_neC g3 hqk2 (by decide)) (gnc (g_neC g3 htk42 (by decide)) gn0)) g3
    have g10 := hfs _ _ (gnc (Ne.symm (g_neA hqk2 g4)) (gnc (Ne.symm (g_neA htk42 g4)) gn0)) g4
    have g11 := hfs _ _ (gnc (g_neC g5 hqk2 (by decide)) (gnc (g_neC g5 htk42 (by decide)) gn0)) g5
    have g12 := hfp _ _ (gnc (Ne.symm (g_neA hqk hva)) (gnc (Ne.symm (g_neA htq hva)) gn0)) hva
    have g13 := hfs _ _ (gnc (Ne.symm (g_neA hqk2 g12)) (gnc (Ne.symm (g_neA htk42 g12)) gn0)) g12
    refine w_if_ne (tgt := 77) (pc' := 74) F (by omega) dX6_idleIn_71 (by decide) rfl (fun c0 => ?_) (fun c0 => ?_)
    · refine v_iinc (pc' := 80) (j := 0) (x := nI k) (v := nI (k + 1)) (L' := [(5, .int (nI (k + 1))), (4, .int (nI L)), (3, .ref tr), (2, .ref av), (1, .int (nI j)), (0, .ref x)]) F dX6_idleIn_77 rfl (nI_add k 1) (by decide) rfl rfl ?_
      refine v_goto (tgt := 37) F dX6_idleIn_80 (by decide) ?_
      refine v_sub (L' := [(5, .int (nI (k + 1))), (4, .int (nI L)), (3, .ref tr), (2, .ref av), (1, .int (nI j)), (0, .ref x)]) [0, 1, 2, 3, 4, 5] rfl ?_
      exact ih (k := k + 1) (os := (-1, pc) :: os) (by omega) (by omega) hO2 (by simp only [List.length_cons]; omega) hVs2 g9 g10 g11 g13 (by rw [hw2]; omega) (by omega) (fun h9 fr9 => by have := hp h9 (gfr.t fr8 fr9); unfold idF at this; rw [if_neg c0] at this; exact this)
    · refine v_iload (pc' := 76) F dX6_idleIn_74  (j := 0) rfl rfl ?_
      exact v_iret F E (by omega) (by omega)  dX6_idleIn_76 (by have := hp _ fr8; unfold idF at this; rw [if_pos c0] at this; exact this)
theorem m_X6_idleIn_c53 : Cond.classLink RX6 53 RX5 ∈ wsX6_idleIn := by decide +kernel
theorem m_X6_idleIn_in5 : Cond.instantiable RX5 9 ∈ wsX6_idleIn := by decide +kernel
theorem m_X6_idleIn_ini5 : Cond.initialized RX5 ∈ wsX6_idleIn := by decide +kernel
theorem m_X6_idleIn_ml55 : Cond.methodLink RX6 55 yX5_init ∈ wsX6_idleIn := by decide +kernel
theorem m_X6_idleIn_imX5_init : Cond.instanceMethod yX5_init ∈ wsX6_idleIn := by decide +kernel
theorem gfr.drop2 {h h1 h2 : gH} {q : Nat} (hq : h q = none) (f1 : gfr [] h h1) (f2 : gfr [q] h1 h2) : gfr [] h h2 := fun a e m z => f2 a e (fun y => by rw [List.mem_singleton.mp y, hq] at z; cases z) (f1 a e m z)
set_option maxHeartbeats 4000000 in
set_option maxRecDepth 100000 in
theorem c_X6_idleIn (G : gG) (z0 : Nat) (l : Launch) (hst : l.stackTraces = false) {h : gH} {x buf rd bks oq rw orw bl cur und : Nat} {off : Int32} {bk : Nat → Nat} {va n pc dr : Nat} {ad : Nat → Nat} {as : Nat → List Nat} {os : Nat → List mO} (ix : Int32) (hX : isX6 G h x buf rd bks oq rw orw bl off cur und bk) (hc : cur < 10) (hu : und ≤ 8) (hn : n ≤ 64) (hB : isBk G h (bk cur) va n pc dr ad) (hD : isDat h n ad as os) (hro : rw ≠ orw) (hsc : scr G h rw orw oq) (hpc : 2 ≤ pc ∧ pc ≤ 4) : gCX G z0 l yX6_idleIn wsX6_idleIn 7 112 [.ref x, .int ix] h (fun v h' => ∃ j, j < n ∧ ix = nI j ∧ qPost G h rw orw oq (.int (idN pc (os j))) v h') (xPost G h rw orw oq (fun E => E = "java/lang/IndexOutOfBoundsException" ∧ ¬ iR ix n)) 520 1030 := by
  obtain ⟨hx, fb, hbks, hfb⟩ := id hX
  obtain ⟨hb, f, hva, hf⟩ := id hB
  obtain ⟨⟨f0, hrw⟩, ⟨g0, horw⟩, oa, ob, oc, od, hoq⟩ := id hsc
  refine gCX_of hst (cc := cX6_idleIn) (nL := 6) (ret := (some .int)) (by decide) rfl (Nat.le_of_ble_eq_true rfl) ?_
  intro X F E EX _
  change gF G z0 X cX6_idleIn 6 RX6 wsX6_idleIn (some .int) "idleIn" 7 112 _ _ at F
  show gV G z0 X 0 0 h 0 [(0, .ref x), (1, .int ix)] []
  refine v_aload_n (pc' := 1) F dX6_idleIn_0 rfl (j := 0) rfl rfl ?_
  refine v_iload_n (pc' := 2) F dX6_idleIn_1 rfl (j := 1) rfl rfl ?_
  refine v_callVX (pc' := 5) (rt := (some (.object "SteadyQueues$Version"))) (mcc := 1) (msc := 6) (As := [.int ix]) (st := []) F EX (fun l hst => c_X6_needVersion G z0 l hst ix hX hc hu hn hB) (fun E h' q => ⟨⟨q.2.1, q.2.2⟩, by rw [q.1]; exact hsc, by rw [q.1]; exact gfr.rf⟩) gX6_idleIn_X6_needVersion rfl hv_X6_needVersion (by decide) (by decide) hx rfl rfl rfl (Nat.le_of_ble_eq_true rfl) (by omega) (by omega) dX6_idleIn_2 rfl (fun v1 h hq => ?_)
  obtain ⟨j, hj, rfl, rfl, rfl⟩ := hq
  obtain ⟨tj, aj, bj, hvj, hfaj, hfbj, hTj, x3j, x4j, x5j, x6j, htj⟩ := (hD.x j hj).obj
  have hO1 := (hD j hj).2
  have hqf := qOf_fl hO1.1
  have hlv := wVals_le (os j)
  have hqs := qOf_small hO1.1
  refine v_astore_n (pc' := 6) (i := 2) (L' := [(2, .ref (ad j)), (0, .ref x), (1, .int (nI j))]) F dX6_idleIn_5 rfl (by decide) rfl rfl ?_
  refine v_aload_n (pc' := 7) F dX6_idleIn_6 rfl (j := 0) rfl rfl ?_
  refine v_getf (pc' := 10) (v := .ref tj) F k_X6_idleIn_5 hvj 3 (by decide) m_X6_idleIn_f160 rfl dX6_idleIn_7 rfl ?_
  refine v_getf (pc' := 13) (v := .int (nI ((qOf (os j)).1.2.2.2.2.1))) F k_X6_idleIn_4 htj 0 (by decide) m_X6_idleIn_f164 rfl dX6_idleIn_10 rfl ?_
  refine w_if_ne (tgt := 18) (pc' := 16) F (by omega) dX6_idleIn_13 (by decide) rfl (fun c0 => ?_) (fun c0 => ?_)
  · refine w_new (pc' := 21) F [.null, .int (nI 0), .int (nI 0), .null, .null, .null, .int (nI 0), .int (nI 0), .int (nI 0)] k_X6_idleIn_5 tyX5_ok m_X6_idleIn_c53 m_X6_idleIn_in5 m_X6_idleIn_ini5 (g_dv5 ) (by omega) (by omega) dX6_idleIn_18 rfl (fun q2 h3 e4 a5 f6 => ?_)
    refine v_dup (pc' := 22) F dX6_idleIn_21 rfl rfl ?_
    refine v_aload_n (pc' := 23) F dX6_idleIn_22 rfl (j := 0) rfl rfl ?_
    refine v_iconst (pc' := 24) (v := (-1)) F dX6_idleIn_23 (by decide) rfl ?_
    have hV1 := (hD.x j hj).pv f6.pv0
    obtain ⟨tj9, hV2⟩ := hV1
    have g7 := f6 _ _ gn0 hx
    have g8 := f6 _ _ gn0 hbks
    have g9 := f6 _ _ gn0 hb
    have g10 := f6 _ _ gn0 hva
    have g11 := f6 _ _ gn0 hvj
    refine v_callI (pc' := 27) (mcc := 1) (msc := 6) (As := [.ref (ad j), .int (-1)]) (st := [.ref q2]) F (fun l => c_X5_init1 G z0 l (-1) (g_neN hvj e4) a5 hV2) gX6_idleIn_X5_init rfl m_X6_idleIn_ini5 m_X6_idleIn_ml55 m_X6_idleIn_imX5_init rfl hd_X5_init (by decide) (by decide) rfl rfl (Nat.le_of_ble_eq_true rfl) (by omega) (by omega) dX6_idleIn_24 rfl (fun v13 h12 hq => ?_)
    obtain ⟨rfl, t, hVc, hfc, htn⟩ := hq
    obtain ⟨fsq, hqk⟩ := hVc.kind
    obtain ⟨fst9, htk4⟩ := hVc.tkind
    refine v_astore_n (pc' := 28) (i := 3) (L' := [(3, .ref q2), (2, .ref (ad j)), (0, .ref x), (1, .int (nI j))]) F dX6_idleIn_27 rfl (by decide) rfl rfl ?_
    refine v_aload_n (pc' := 29) F dX6_idleIn_28 rfl (j := 1) rfl rfl ?_
    have pvc := gfr.drop2 e4 f6 hfc
    have g15 := hfc _ _ (gnc (g_neN hvj e4) gn0) g11
    refine v_callV (pc' := 32) (rt := (some .int)) (mcc := 0) (msc := 0) (As := []) (st := []) F (fun l => c_X5_length G z0 l ((hD.x j hj).pv pvc.pv0).choose_spec) gX6_idleIn_X5_length rfl hv_X5_length (by decide) (by decide) g15 rfl rfl rfl (Nat.le_of_ble_eq_true rfl) (by omega) (by omega) dX6_idleIn_29 rfl (fun v14 h12 hq => ?_)
    rw [hqf.1] at hq; obtain ⟨rfl, rfl⟩ := hq
    refine v_istore (pc' := 34) (i := 4) (L' := [(4, .int (nI ((wVals (os j)).length))), (3, .ref q2), (2, .ref (ad j)), (0, .ref x), (1, .int (nI j))]) F dX6_idleIn_32  (by decide) rfl rfl ?_
    refine v_iconst (pc' := 35) (v := nI 1) F dX6_idleIn_34 (by decide) rfl ?_
    refine v_istore (pc' := 37) (i := 5) (L' := [(5, .int (nI 1)), (4, .int (nI ((wVals (os j)).length))), (3, .ref q2), (2, .ref (ad j)), (0, .ref x), (1, .int (nI j))]) F dX6_idleIn_35  (by decide) rfl rfl ?_
    refine v_sub (L' := [(5, .int (nI 1)), (4, .int (nI ((wVals (os j)).length))), (3, .ref q2), (2, .ref (ad j)), (1, .int (nI j)), (0, .ref x)]) [0, 1, 2, 3, 5, 4] rfl ?_
    have g16 := hfc _ _ (gnc (g_neN hx e4) gn0) g7
    have g17 := hfc _ _ (gnc (g_neN hbks e4) gn0) g8
    have g18 := hfc _ _ (gnc (g_neN hb e4) gn0) g9
    have g19 := hfc _ _ (gnc (g_neN hva e4) gn0) g10
    have g20 := f6 _ _ gn0 hrw
    have g21 := hfc _ _ (gnc (g_neN hrw e4) gn0) g20
    have g22 := f6 _ _ gn0 horw
    have g23 := hfc _ _ (gnc (g_neN horw e4) gn0) g22
    have g24 := f6 _ _ gn0 hoq
    have g25 := hfc _ _ (gnc (g_neN hoq e4) gn0) g24
    refine lp_X6_idleIn (ad := ad) (k := 1) (m := (wVals (os j)).length) (os := os j) F E hfb hc hpc (by omega) (by omega) (by omega) hO1.1 (by omega) hVc g16 g17 g18 g19 rfl (by omega) (fun h9 fr9 => ?_)
    have fr27 : gfr [q2, t, rw, orw, oq] h h9 := (gfr.t (gfr.mono0 f6) (gfr.t (gfr.mono hfc (by intro q9 z9 m9; apply z9; simp only [List.mem_cons, List.not_mem_nil, or_false] at m9 ⊢; omega)) (gfr.mono fr9 (by intro q9 z9 m9; apply z9; simp only [List.mem_cons, List.not_mem_nil, or_false] at m9 ⊢; omega))))
    have fr28 := gfr.drop e4 fr27
    have fr29 : gfr [] h h3 := f6
    have e30 := gfr.non fr29 htn gn0
    have fr26 := gfr.drop e30 fr28
    have g31 := fr9 _ _ (gnc (g_neN hrw e4) (gnc (Ne.symm (g_neA htk4 g21)) gn0)) g21
    have g32 := fr9 _ _ (gnc (g_neN horw e4) (gnc (Ne.symm (g_neA htk4 g23)) gn0)) g23
    have g33 := fr9 _ _ (gnc (g_neN hoq e4) (gnc (g_neC g25 htk4 (by decide)) gn0)) g25
    exact ⟨j, hj, rfl, by unfold idN; rw [if_neg c0], ⟨⟨_, g31⟩, ⟨_, g32⟩, _, _, _, _, g33⟩, fr26⟩
  · refine v_iconst (pc' := 17) (v := nI 0) F dX6_idleIn_16 (by decide) rfl ?_
    have fr34 : gfr [rw, orw, oq] h h := gfr.rf
    exact v_iret F E (by omega) (by omega)  dX6_idleIn_17 ⟨j, hj, rfl, by unfold idN; rw [if_pos c0], ⟨⟨_, hrw⟩, ⟨_, horw⟩, _, _, _, _, hoq⟩, fr34⟩
