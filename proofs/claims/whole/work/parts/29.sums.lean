theorem k_X6_meanSteps_6 : gCl wsX6_meanSteps 6 RX6 TX6 10 := ⟨by decide +kernel, rfl⟩
theorem m_X6_meanSteps_f22 : Cond.fieldLink RX6 22 "SteadyQueues" "books" "[LSteadyQueues$Book;" ∈ wsX6_meanSteps := by decide +kernel
theorem m_X6_meanSteps_f47 : Cond.fieldLink RX6 47 "SteadyQueues" "current" "I" ∈ wsX6_meanSteps := by decide +kernel
theorem k_X6_meanSteps_0 : gCl wsX6_meanSteps 0 RX0 TX0 4 := ⟨by decide +kernel, rfl⟩
theorem m_X6_meanSteps_f87 : Cond.fieldLink RX6 87 "SteadyQueues$Book" "count" "I" ∈ wsX6_meanSteps := by decide +kernel
/-! STEADYQUEUES: SUMS -/
def allS (n : Nat) (os : Nat → List mO) : Nat := gsum (fun i => (qOf (os i)).2) n
def meanN (n : Nat) (os : Nat → List mO) : UInt32 := if n ≤ 1 then FP.fconst0 else FP.fdiv (FP.i2f (nI (allS n os))) (FP.i2f (nI (n - 1)))
set_option maxHeartbeats 4000000 in
set_option maxRecDepth 100000 in
theorem c_X6_meanSteps (G : gG) (z0 : Nat) (l : Launch) {h : gH} {x buf rd bks oq rw orw bl cur und : Nat} {off : Int32} {bk : Nat → Nat} {va n pc dr : Nat} {ad : Nat → Nat} {as : Nat → List Nat} {os : Nat → List mO} (hX : isX6 G h x buf rd bks oq rw orw bl off cur und bk) (hc : cur < 10) (hu : und ≤ 8) (hn : n ≤ 64) (hB : isBk G h (bk cur) va n pc dr ad) (hD : isDat h n ad as os) (hro : rw ≠ orw) (hsc : scr G h rw orw oq) (h1n : 1 ≤ n) (hA9 : allS n os < 253) : gC G z0 l yX6_meanSteps wsX6_meanSteps 1 22 [.ref x] h (qPost G h rw orw oq (.float (meanN n os))) 0 0 := by
  obtain ⟨hx, fb, hbks, hfb⟩ := id hX
  obtain ⟨hb, f, hva, hf⟩ := id hB
  obtain ⟨⟨f0, hrw⟩, ⟨g0, horw⟩, oa, ob, oc, od, hoq⟩ := id hsc
  refine gC_of (cc := cX6_meanSteps) (nL := 3) (ret := (some .float)) (by decide) rfl (Nat.le_of_ble_eq_true rfl) ?_
  intro X F E _
  change gF G z0 X cX6_meanSteps 3 RX6 wsX6_meanSteps (some .float) "meanSteps" 1 22 _ _ at F
  show gV G z0 X 0 0 h 0 [(0, .ref x)] []
  refine v_aload_n (pc' := 1) F dX6_meanSteps_0 rfl (j := 0) rfl rfl ?_
  refine v_getf (pc' := 4) (v := .ref bks) F k_X6_meanSteps_6 hx 2 (by decide) m_X6_meanSteps_f22 rfl dX6_meanSteps_1 rfl ?_
  refine v_aload_n (pc' := 5) F dX6_meanSteps_4 rfl (j := 0) rfl rfl ?_
  refine v_getf (pc' := 8) (v := .int (nI cur)) F k_X6_meanSteps_6 hx 8 (by decide) m_X6_meanSteps_f47 rfl dX6_meanSteps_5 rfl ?_
  refine w_qald (pc' := 9) (v := some (bk cur)) F hbks (by omega) (by omega) (hfb cur (by omega)) dX6_meanSteps_8 rfl ?_
  refine v_astore_n (pc' := 10) (i := 1) (L' := [(1, .ref (bk cur)), (0, .ref x)]) F dX6_meanSteps_9 rfl (by decide) rfl rfl ?_
  refine v_aload_n (pc' := 11) F dX6_meanSteps_10 rfl (j := 0) rfl rfl ?_
  refine v_getf (pc' := 14) (v := .int (nI n)) F k_X6_meanSteps_0 hb 1 (by decide) m_X6_meanSteps_f87 rfl dX6_meanSteps_11 rfl ?_
  refine v_iconst (pc' := 15) (v := nI 1) F dX6_meanSteps_14 (by decide) rfl ?_
  refine v_isub (pc' := 16) (v := nI (n - 1)) F dX6_meanSteps_15 (g_subn (by omega) (by omega)) rfl ?_
  refine v_istore_n (pc' := 17) (i := 2) (L' := [(2, .int (nI (n - 1))), (1, .ref (bk cur)), (0, .ref x)]) F dX6_meanSteps_16 rfl (by decide) rfl rfl ?_
  refine v_iload_n (pc' := 18) F dX6_meanSteps_17 rfl (j := 0) rfl rfl ?_
  refine w_if_gt (tgt := 23) (pc' := 21) F (by omega) dX6_meanSteps_18 (by decide) rfl (fun c0 => ?_) (fun c0 => ?_)
  · refine v_aload_n (pc' := 24) F dX6_meanSteps_23 rfl (j := 1) rfl rfl ?_
    have hs9 : gsum (fun i => (qOf (os i)).2) n ≤ n * 4 := gsum_le (fun i hi => qOf_le (hD i hi).2.1)
    have hA : allS n os < 253 := hA9
    refine v_callV (pc' := 27) (rt := (some .int)) (mcc := 0) (msc := 0) (As := []) (st := []) F (fun l => c_X0_allSteps G z0 l hn hB hD.x hD.o) gX6_meanSteps_X0_allSteps rfl hv_X0_allSteps (by decide) (by decide) hb rfl rfl rfl (Nat.le_of_ble_eq_true rfl) (by omega) (by omega) dX6_meanSteps_24 rfl (fun v1 h hq => ?_)
    obtain ⟨rfl, rfl⟩ := hq
    refine v_i2f (pc' := 28) F dX6_meanSteps_27 rfl ?_
    refine v_iload_n (pc' := 29) F dX6_meanSteps_28 rfl (j := 0) rfl rfl ?_
    refine v_i2f (pc' := 30) F dX6_meanSteps_29 rfl ?_
    refine v_fdiv (pc' := 31) F (fd_ok hA (by omega) (by omega)) dX6_meanSteps_30 rfl ?_
    have fr2 : gfr [rw, orw, oq] h h := gfr.rf
    exact v_fret F E (by omega) (by omega)  dX6_meanSteps_31 ⟨by unfold meanN allS; rw [if_neg (by omega)], ⟨⟨_, hrw⟩, ⟨_, horw⟩, _, _, _, _, hoq⟩, fr2⟩
  · refine v_fconst0 (pc' := 22) F dX6_meanSteps_21 rfl ?_
    have fr3 : gfr [rw, orw, oq] h h := gfr.rf
    exact v_fret F E (by omega) (by omega)  dX6_meanSteps_22 ⟨by unfold meanN; rw [if_pos (by omega)], ⟨⟨_, hrw⟩, ⟨_, horw⟩, _, _, _, _, hoq⟩, fr3⟩
theorem m_X6_mixed_cl239 : Cond.constantLong RX6 239 (31) ∈ wsX6_mixed := by decide +kernel
set_option maxHeartbeats 4000000 in
set_option maxRecDepth 100000 in
theorem c_X6_mixed (G : gG) (z0 : Nat) (l : Launch) {h : gH} (sm : Int64) (k : Int32) : gC G z0 l yX6_mixed wsX6_mixed 0 0 [.long sm, .int k] h (fun v h' => v = some (.long (mx sm k)) ∧ h' = h) 0 0 := by
  refine gC_of (cc := cX6_mixed) (nL := 3) (ret := (some .long)) (by decide) rfl (Nat.le_of_ble_eq_true rfl) ?_
  intro X F E _
  change gF G z0 X cX6_mixed 3 RX6 wsX6_mixed (some .long) "mixed" 0 0 _ _ at F
  show gV G z0 X 0 0 h 0 [(0, .long sm), (2, .int k)] []
  refine v_ldc2 (pc' := 3) F m_X6_mixed_cl239 dX6_mixed_0 rfl ?_
  refine v_lload_n (pc' := 4) F dX6_mixed_3 rfl (j := 0) rfl rfl ?_
  refine v_lmul (pc' := 5) (v := 31 * sm) F dX6_mixed_4 rfl rfl ?_
  refine v_iload_n (pc' := 6) F dX6_mixed_5 rfl (j := 1) rfl rfl ?_
  refine v_i2l (pc' := 7) (v := (k).toInt64) F dX6_mixed_6 rfl rfl ?_
  refine v_ladd (pc' := 8) (v := (31 * sm) + ((k).toInt64)) F dX6_mixed_7 rfl rfl ?_
  exact v_lret F E (by omega) (by omega)  dX6_mixed_8 ⟨rfl, rfl⟩
theorem k_X6_mixedWithLists_6 : gCl wsX6_mixedWithLists 6 RX6 TX6 10 := ⟨by decide +kernel, rfl⟩
theorem m_X6_mixedWithLists_f33 : Cond.fieldLink RX6 33 "SteadyQueues" "row" "[I" ∈ wsX6_mixedWithLists := by decide +kernel
theorem hd_X6_mixed : yX6_mixed.cls ≠ "java/lang/invoke/MethodHandle" ∧ yX6_mixed.cls ≠ "java/lang/invoke/VarHandle" ∧ (parseMethodDescriptor yX6_mixed.desc).map (fun d => d.parameters.length) = some 2 := by decide +kernel
set_option maxHeartbeats 4000000 in
set_option maxRecDepth 100000 in
theorem lpA_X6_mixedWithLists {G : gG} {z0 : Nat} {X : gX} {mc ms cells slots m i v : Nat} {h : gH} {x buf rd bks oq rw orw bl cur und : Nat} {off : Int32} {bk : Nat → Nat} {sm s0 : Int64} {f : Nat → Int32} {ys : List Int32} (F : gF G z0 X cX6_mixedWithLists 9 RX6 wsX6_mixedWithLists (some .long) "mixedWithLists" 3 70 mc ms) (hcc : cells ≤ mc) (hss : slots ≤ ms) (hx : h x = some (.inr (6, [.ref buf, .ref rd, .ref bks, .ref oq, .ref rw, .ref orw, .int (nI bl), .int off, .int (nI cur), .int (nI und)]))) (hw : h rw = some (oI G 64 f)) (hF : fHas f i ys) (hm : i + ys.length = m) (hm64 : m ≤ 64) (K : gV G z0 X cells slots h 43 [(7, .int (nI m)), (6, .int (nI m)), (4, .long (mxL sm ys)), (3, .ref v), (1, .long s0), (0, .ref x)] []) : gV G z0 X cells slots h 16 [(7, .int (nI i)), (6, .int (nI m)), (4, .long sm), (3, .ref v), (1, .long s0), (0, .ref x)] [] := by
  induction ys generalizing i sm with
  | nil =>
    simp only [List.length_nil] at hm
    refine v_iload (pc' := 18) F dX6_mixedWithLists_16  (j := 0) rfl rfl ?_
    refine v_iload (pc' := 20) F dX6_mixedWithLists_18  (j := 1) rfl rfl ?_
    refine w_icmp_ge (tgt := 43) (pc' := 23) F (by omega) (by omega) dX6_mixedWithLists_20 (by decide) rfl (fun _ => ?_) (fun c0 => absurd c0 (by omega))
    have e : i = m := by omega
    subst e
    exact K
  | cons z ys ih =>
    simp only [List.length_cons] at hm
    have hz := hF.hdE
    refine v_iload (pc' := 18) F dX6_mixedWithLists_16  (j := 0) rfl rfl ?_
    refine v_iload (pc' := 20) F dX6_mixedWithLists_18  (j := 1) rfl rfl ?_
    refine w_icmp_ge (tgt := 43) (pc' := 23) F (by omega) (by omega) dX6_mixedWithLists_20 (by decide) rfl (fun c0 => absurd c0 (by omega)) (fun _ => ?_)
    refine v_lload (pc' := 25) F dX6_mixedWithLists_23  (j := 2) rfl rfl ?_
    refine v_aload_n (pc' := 26) F dX6_mixedWithLists_25 rfl (j := 5) rfl rfl ?_
    refine v_getf (pc' := 29) (v := .ref rw) F k_X6_mixedWithLists_6 hx 4 (by decide) m_X6_mixedWithLists_f33 rfl dX6_mixedWithLists_26 rfl ?_
    refine v_iload (pc' := 31) F dX6_mixedWithLists_29  (j := 0) rfl rfl ?_
    refine w_iald (pc' := 32) (v := z) F hw (by omega) (by omega) hz dX6_mixedWithLists_31 rfl ?_
    refine v_callS (pc' := 35) (rt := (some .long)) (mcc := 0) (msc := 0) (As := [.long sm, .int z]) (st := []) F (fun l => c_X6_mixed G z0 l sm z) gX6_mixedWithLists_X6_mixed rfl hd_X6_mixed (by decide) (by decide) rfl rfl (Nat.le_of_ble_eq_true rfl) (by omega) (by omega) dX6_mixedWithLists_32 rfl (fun v1 h hq => ?_)
    obtain ⟨rfl, rfl⟩ := hq
    refine v_lstore (pc' := 37) (i := 4) (L' := [(4, .long (mx sm z)), (7, .int (nI i)), (6, .int (nI m)), (3, .ref v), (1, .long s0), (0, .ref x)]) F dX6_mixedWithLists_35  (by decide) rfl rfl ?_
    refine v_iinc (pc' := 40) (j := 1) (x := nI i) (v := nI (i + 1)) (L' := [(7, .int (nI (i + 1))), (4, .long (mx sm z)), (6, .int (nI m)), (3, .ref v), (1, .long s0), (0, .ref x)]) F dX6_mixedWithLists_37 rfl (nI_add i 1) (by decide) rfl rfl ?_
    refine v_goto (tgt := 16) F dX6_mixedWithLists_40 (by decide) ?_
    refine v_sub (L' := [(7, .int (nI (i + 1))), (6, .int (nI m)), (4, .long (mx sm z)), (3, .ref v), (1, .long s0), (0, .ref x)]) [0, 2, 1, 3, 4, 5] rfl ?_
    exact ih (i := i + 1) hF.tl (by omega) K
theorem k_X6_mixedWithLists_1 : gCl wsX6_mixedWithLists 1 RX1 TX1 2 := ⟨by decide +kernel, rfl⟩
theorem m_X6_mixedWithLists_f232 : Cond.fieldLink RX6 232 "SteadyQueues$Cell" "value" "I" ∈ wsX6_mixedWithLists := by decide +kernel
theorem m_X6_mixedWithLists_f235 : Cond.fieldLink RX6 235 "SteadyQueues$Cell" "next" "LSteadyQueues$Cell;" ∈ wsX6_mixedWithLists := by decide +kernel
set_option maxHeartbeats 4000000 in
set_option maxRecDepth 100000 in
theorem lpC_X6_mixedWithLists {G : gG} {z0 : Nat} {X : gX} {mc ms cells slots m k v x : Nat} {h : gH} {r : Option Nat} {sm s0 : Int64} {ys : List Int32} (F : gF G z0 X cX6_mixedWithLists 9 RX6 wsX6_mixedWithLists (some .long) "mixedWithLists" 3 70 mc ms) (hcc : cells ≤ mc) (hss : slots ≤ ms) (hr : isL h ys r) (K : gV G z0 X cells slots h 88 [(8, .null), (7, .int (nI k)), (6, .int (nI m)), (4, .long (mxL sm ys)), (3, .ref v), (1, .long s0), (0, .ref x)] []) : gV G z0 X cells slots h 61 [(8, va_rf r), (7, .int (nI k)), (6, .int (nI m)), (4, .long sm), (3, .ref v), (1, .long s0), (0, .ref x)] [] := by
  induction ys generalizing r sm with
  | nil =>
    cases hr
    refine v_aload0 (pc' := 63) F dX6_mixedWithLists_61  (j := 0) rfl rfl ?_
    refine v_ifnullN (tgt := 88) F dX6_mixedWithLists_63 (by decide) ?_
    exact K
  | cons z ys ih =>
    obtain ⟨a, nx, rfl, ha, hnx⟩ := hr
    refine v_aload (pc' := 63) F dX6_mixedWithLists_61  (j := 0) rfl rfl ?_
    refine v_ifnull (pc' := 66) F dX6_mixedWithLists_63 rfl ?_
    refine v_lload (pc' := 68) F dX6_mixedWithLists_66  (j := 3) rfl rfl ?_
    refine v_aload (pc' := 70) F dX6_mixedWithLists_68  (j := 0) rfl rfl ?_
    refine v_getf (pc' := 73) (v := .int z) F k_X6_mixedWithLists_1 ha 0 (by decide) m_X6_mixedWithLists_f232 rfl dX6_mixedWithLists_70 rfl ?_
    refine v_callS (pc' := 76) (rt := (some .long)) (mcc := 0) (msc := 0) (As := [.long sm, .int z]) (st := []) F (fun l => c_X6_mixed G z0 l sm z) gX6_mixedWithLists_X6_mixed rfl hd_X6_mixed (by decide) (by decide) rfl rfl (Nat.le_of_ble_eq_true rfl) (by omega) (by omega) dX6_mixedWithLists_73 rfl (fun v1 h hq => ?_)
    obtain ⟨rfl, rfl⟩ := hq
    refine v_lstore (pc' := 78) (i := 4) (L' := [(4, .long (mx sm z)), (8, .ref a), (7, .int (nI k)), (6, .int (nI m)), (3, .ref v), (1, .long s0), (0, .ref x)]) F dX6_mixedWithLists_76  (by decide) rfl rfl ?_
    refine v_aload (pc' := 80) F dX6_mixedWithLists_78  (j := 1) rfl rfl ?_
    refine v_getf (pc' := 83) (v := va_rf nx) F k_X6_mixedWithLists_1 ha 1 (by decide) m_X6_mixedWithLists_f235 rfl dX6_mixedWithLists_80 rfl ?_
    refine v_astoreq (pc' := 85) (i := 8) (L' := [(8, va_rf nx), (4, .long (mx sm z)), (7, .int (nI k)), (6, .int (nI m)), (3, .ref v), (1, .long s0), (0, .ref x)]) F dX6_mixedWithLists_83  (by decide) rfl rfl ?_
    refine v_goto (tgt := 61) F dX6_mixedWithLists_85 (by decide) ?_
    refine v_sub (L' := [(8, va_rf nx), (7, .int (nI k)), (6, .int (nI m)), (4, .long (mx sm z)), (3, .ref v), (1, .long s0), (0, .ref x)]) [0, 2, 3, 1, 4, 5, 6] rfl ?_
    exact ih hnx K
set_option maxHeartbeats 4000000 in
set_option maxRecDepth 100000 in
theorem lpB_X6_mixedWithLists {G : gG} {z0 : Nat} {X : gX} {post : Option Value → gH → Prop} {mc ms cells slots m j k v t dp st x : Nat} {par : Option Nat} {pu : Int32} {q : mQ} {h : gH} {sm s0 : Int64} (F : gF G z0 X cX6_mixedWithLists 9 RX6 wsX6_mixedWithLists (some .long) "mixedWithLists" 3 70 mc ms) (E : gE G z0 X post mc ms) (hcc : cells ≤ mc) (hss : slots ≤ ms) (hV : isVt h v t par pu dp q st) (hk : k + j = 7) (h1 : 1 ≤ k) (hp : post (some (.long (mxL sm (lsQ q j k)))) h) : gV G z0 X cells slots h 46 [(7, .int (nI k)), (6, .int (nI m)), (4, .long sm), (3, .ref v), (1, .long s0), (0, .ref x)] [] := by
  obtain ⟨fsv, hkv⟩ := hV.kind
  induction j generalizing k sm with
  | zero =>
    refine v_iload (pc' := 48) F dX6_mixedWithLists_46  (j := 0) rfl rfl ?_
    refine v_bipush (pc' := 50) (v := nI 7) F dX6_mixedWithLists_48 (by decide) rfl ?_
    refine w_icmp_ge (tgt := 102) (pc' := 53) F (by omega) (by omega) dX6_mixedWithLists_50 (by decide) rfl (fun _ => ?_) (fun c0 => absurd c0 (by omega))
    refine v_lload (pc' := 104) F dX6_mixedWithLists_102  (j := 2) rfl rfl ?_
    exact v_lret F E (by omega) (by omega)  dX6_mixedWithLists_104 hp
  | succ j ih =>
    refine v_iload (pc' := 48) F dX6_mixedWithLists_46  (j := 0) rfl rfl ?_
    refine v_bipush (pc' := 50) (v := nI 7) F dX6_mixedWithLists_48 (by decide) rfl ?_
    refine w_icmp_ge (tgt := 102) (pc' := 53) F (by omega) (by omega) dX6_mixedWithLists_50 (by decide) rfl (fun c0 => absurd c0 (by omega)) (fun _ => ?_)
    refine v_aload_n (pc' := 54) F dX6_mixedWithLists_53 rfl (j := 3) rfl rfl ?_
    refine v_iload (pc' := 56) F dX6_mixedWithLists_54  (j := 0) rfl rfl ?_
    refine v_callV (pc' := 59) (rt := (some (.object "SteadyQueues$Cell"))) (mcc := 0) (msc := 0) (As := [.int (nI k)]) (st := []) F (fun l => c_X5_listOf G z0 l ⟨by omega, by omega⟩ hV) gX6_mixedWithLists_X5_listOf rfl hv_X5_listOf (by decide) (by decide) hkv rfl rfl rfl (Nat.le_of_ble_eq_true rfl) (by omega) (by omega) dX6_mixedWithLists_56 rfl (fun v1 h hq => ?_)
    obtain ⟨r9, rfl, hr9, rfl⟩ := hq
    refine v_astoreq (pc' := 61) (i := 8) (L' := [(8, va_rf r9), (7, .int (nI k)), (6, .int (nI m)), (4, .long sm), (3, .ref v), (1, .long s0), (0, .ref x)]) F dX6_mixedWithLists_59  (by decide) rfl rfl ?_
    refine v_sub (L' := [(8, va_rf r9), (7, .int (nI k)), (6, .int (nI m)), (4, .long sm), (3, .ref v), (1, .long s0), (0, .ref x)]) [0, 1, 2, 3, 4, 5, 6] rfl ?_
    refine lpC_X6_mixedWithLists F hcc hss hr9 ?_
    refine v_lload (pc' := 90) F dX6_mixedWithLists_88  (j := 3) rfl rfl ?_
    refine v_iconst (pc' := 91) (v := (-1)) F dX6_mixedWithLists_90 (by decide) rfl ?_
    refine v_callS (pc' := 94) (rt := (some .long)) (mcc := 0) (msc := 0) (As := [.long (mxL sm (qList q k)), .int (-1)]) (st := []) F (fun l => c_X6_mixed G z0 l (mxL sm (qList q k)) (-1)) gX6_mixedWithLists_X6_mixed rfl hd_X6_mixed (by decide) (by decide) rfl rfl (Nat.le_of_ble_eq_true rfl) (by omega) (by omega) dX6_mixedWithLists_91 rfl (fun v2 h hq => ?_)
    obtain ⟨rfl, rfl⟩ := hq
    refine v_lstore (pc' := 96) (i := 4) (L' := [(4, .long (mx (mxL sm (qList q k)) (-1))), (8, .null), (7, .int (nI k)), (6, .int (nI m)), (3, .ref v), (1, .long s0), (0, .ref x)]) F dX6_mixedWithLists_94  (by decide) rfl rfl ?_
    refine v_iinc (pc' := 99) (j := 2) (x := nI k) (v := nI (k + 1)) (L' := [(7, .int (nI (k + 1))), (4, .long (mx (mxL sm (qList q k)) (-1))), (8, .null), (6, .int (nI m)), (3, .ref v), (1, .long s0), (0, .ref x)]) F dX6_mixedWithLists_96 rfl (nI_add k 1) (by decide) rfl rfl ?_
    refine v_goto (tgt := 46) F dX6_mixedWithLists_99 (by decide) ?_
    refine v_sub (L' := [(7, .int (nI (k + 1))), (6, .int (nI m)), (4, .long (mx (mxL sm (qList q k)) (-1))), (3, .ref v), (1, .long s0), (0, .ref x)]) [0, 3, 1, 4, 5, 6] rfl ?_
    exact ih (k := k + 1) (by omega) (by omega) (by rw [lsQ_s, mxL_app, mxL_cons] at hp; exact hp)
set_option maxHeartbeats 4000000 in
set_option maxRecDepth 100000 in
theorem c_X6_mixedWithLists (G : gG) (z0 : Nat) (l : Launch) {h : gH} {x buf rd bks oq rw orw bl cur und : Nat} {off : Int32} {bk : Nat → Nat} {v : Nat} {pa : Option Nat} {os : List mO} {f0 : Nat → Int32} (s0 : Int64) (hx : h x = some (.inr (6, [.ref buf, .ref rd, .ref bks, .ref oq, .ref rw, .ref orw, .int (nI bl), .int off, .int (nI cur), .int (nI und)]))) (hrw : h rw = some (oI G 64 f0)) (hV : isVx h v pa os) (hO : wOk os) (hl : os.length < 64) : gC G z0 l yX6_mixedWithLists wsX6_mixedWithLists 3 70 [.ref x, .long s0, .ref v] h (fun v h' => v = some (.long (mxL s0 (lsV os))) ∧ (∃ f', h' rw = some (oI G 64 f')) ∧ gfr [rw] h h') 0 0 := by
  obtain ⟨tv, hVt⟩ := hV
  obtain ⟨fsv, hkv⟩ := hVt.kind
  have hQ := (qOf_J hO).vals
  have hlv := wVals_le os
  refine gC_of (cc := cX6_mixedWithLists) (nL := 9) (ret := (some .long)) (by decide) rfl (Nat.le_of_ble_eq_true rfl) ?_
  intro X F E _
  change gF G z0 X cX6_mixedWithLists 9 RX6 wsX6_mixedWithLists (some .long) "mixedWithLists" 3 70 _ _ at F
  show gV G z0 X 0 0 h 0 [(0, .ref x), (1, .long s0), (3, .ref v)] []
  refine v_lload_n (pc' := 1) F dX6_mixedWithLists_0 rfl (j := 1) rfl rfl ?_
  refine v_lstore (pc' := 3) (i := 4) (L' := [(4, .long s0), (0, .ref x), (1, .long s0), (3, .ref v)]) F dX6_mixedWithLists_1  (by decide) rfl rfl ?_
  refine v_aload_n (pc' := 4) F dX6_mixedWithLists_3 rfl (j := 3) rfl rfl ?_
  refine v_aload_n (pc' := 5) F dX6_mixedWithLists_4 rfl (j := 1) rfl rfl ?_
  refine v_getf (pc' := 8) (v := .ref rw) F k_X6_mixedWithLists_6 hx 4 (by decide) m_X6_mixedWithLists_f33 rfl dX6_mixedWithLists_5 rfl ?_
  refine v_callV (pc' := 11) (rt := (some .int)) (mcc := 0) (msc := 0) (As := [.ref rw]) (st := []) F (fun l => c_X5_valuesInto G z0 l (by omega) (b := os.length) (by omega) (qOf_J hO) hVt hrw) gX6_mixedWithLists_X5_valuesInto rfl hv_X5_valuesInto (by decide) (by decide) hkv rfl rfl rfl (Nat.le_of_ble_eq_true rfl) (by omega) (by omega) dX6_mixedWithLists_8 rfl (fun v2 h1 hq => ?_)
  obtain ⟨rfl, f1, w1, g1, k1⟩ := hq
  rw [hQ] at g1 ⊢
  have pv1 := gfr.pv k1 (by intro a9 m9 ci9 fs9 c9 z9; rw [List.mem_singleton.mp m9, hrw] at z9; cases z9)
  refine v_istore (pc' := 13) (i := 6) (L' := [(6, .int (nI ((wVals os).length))), (4, .long s0), (0, .ref x), (1, .long s0), (3, .ref v)]) F dX6_mixedWithLists_11  (by decide) rfl rfl ?_
  refine v_iconst (pc' := 14) (v := nI 0) F dX6_mixedWithLists_13 (by decide) rfl ?_
  refine v_istore (pc' := 16) (i := 7) (L' := [(7, .int (nI 0)), (6, .int (nI ((wVals os).length))), (4, .long s0), (0, .ref x), (1, .long s0), (3, .ref v)]) F dX6_mixedWithLists_14  (by decide) rfl rfl ?_
  refine v_sub (L' := [(7, .int (nI 0)), (6, .int (nI ((wVals os).length))), (4, .long s0), (3, .ref v), (1, .long s0), (0, .ref x)]) [0, 1, 2, 5, 4, 3] rfl ?_
  have g3 := k1 _ _ (gnc (g_neA hx hrw) gn0) hx
  refine lpA_X6_mixedWithLists (bk := bk) (i := 0) F (by omega) (by omega) g3 w1 g1 (by omega) (by omega) ?_
  refine v_iconst (pc' := 44) (v := nI 1) F dX6_mixedWithLists_43 (by decide) rfl ?_
  refine v_istore (pc' := 46) (i := 7) (L' := [(7, .int (nI 1)), (6, .int (nI ((wVals os).length))), (4, .long (mxL s0 (wVals os))), (3, .ref v), (1, .long s0), (0, .ref x)]) F dX6_mixedWithLists_44  (by decide) rfl rfl ?_
  refine v_sub (L' := [(7, .int (nI 1)), (6, .int (nI ((wVals os).length))), (4, .long (mxL s0 (wVals os))), (3, .ref v), (1, .long s0), (0, .ref x)]) [0, 1, 2, 3, 4, 5] rfl ?_
  exact lpB_X6_mixedWithLists (j := 6) (k := 1) F E (by omega) (by omega) (hVt.pv pv1) rfl (by omega) ⟨by unfold lsV; rw [mxL_app], ⟨f1, w1⟩, k1⟩
