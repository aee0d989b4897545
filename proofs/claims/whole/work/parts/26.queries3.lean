/-! STEADYQUEUES: COMMON, RANKED, GAP, IDLEIN -/
def comF (ad : Nat → Nat) (n : Nat) (ys : List Nat) : List Nat → Int32
  | [] => nI 0
  | x :: xs => if x ∈ ys then fidx ad (some x) n 0 else comF ad n ys xs
def rkF (g : Nat → Nat) (pl : Int32) : Nat → Nat → Option Nat
  | 0, _ => none
  | m + 1, i => if nI (g i) = pl then some i else rkF g pl m (i + 1)
def idF (pc : Nat) : List mO → Nat → Nat → Int32
  | _, 0, _ => -1
  | os, m + 1, k => if (qOf ((-1, pc) :: os)).1.2.2.2.2.1 = 0 then nI k else idF pc ((-1, pc) :: os) m (k + 1)
def idN (pc : Nat) (os : List mO) : Int32 := if (qOf os).1.2.2.2.2.1 = 0 then nI 0 else idF pc os (wVals os).length 1
/-- how many stand ahead -/
def rkG (n : Nat) (os : Nat → List mO) (k : Nat) : Nat := gsum (fun i => if qLen (os i) > qLen (os k) ∨ (qLen (os i) = qLen (os k) ∧ i < k) then 1 else 0) n
theorem hv_X5_wasMadeFrom : yX5_wasMadeFrom.cls = RX5 ∧ yX5_wasMadeFrom.cls ≠ "java/lang/invoke/MethodHandle" ∧ yX5_wasMadeFrom.cls ≠ "java/lang/invoke/VarHandle" ∧ (parseMethodDescriptor yX5_wasMadeFrom.desc).map (fun d => d.parameters.length) = some 1 := by decide +kernel
theorem k_X6_common_6 : gCl wsX6_common 6 RX6 TX6 10 := ⟨by decide +kernel, rfl⟩
theorem m_X6_common_f22 : Cond.fieldLink RX6 22 "SteadyQueues" "books" "[LSteadyQueues$Book;" ∈ wsX6_common := by decide +kernel
theorem m_X6_common_f47 : Cond.fieldLink RX6 47 "SteadyQueues" "current" "I" ∈ wsX6_common := by decide +kernel
theorem k_X6_common_5 : gCl wsX6_common 5 RX5 TX5 9 := ⟨by decide +kernel, rfl⟩
theorem m_X6_common_f136 : Cond.fieldLink RX6 136 "SteadyQueues$Version" "parent" "LSteadyQueues$Version;" ∈ wsX6_common := by decide +kernel
theorem isV.kindE {h : gH} {os : List mO} {v : Nat} (w : isV h os v) : ∃ fs, h v = some (.inr (5, fs)) := by
  obtain ⟨pa, pu, t, a, b, h1, -⟩ := w.obj
  exact ⟨_, h1⟩
set_option maxHeartbeats 4000000 in
set_option maxRecDepth 100000 in
theorem lp_X6_common {G : gG} {z0 : Nat} {X : gX} {post : Option Value → gH → Prop} {mc ms cells slots v v0 w : Nat} {h : gH} {x buf rd bks oq rw orw bl cur und : Nat} {off : Int32} {bk : Nat → Nat} {va n pc dr : Nat} {ad : Nat → Nat} {ix iy : Int32} {os1 os2 : List mO} {as1 as2 : List Nat} (F : gF G z0 X cX6_common 6 RX6 wsX6_common (some .int) "common" 7 112 mc ms) (E : gE G z0 X post mc ms) (hcc : cells ≤ mc) (hss : slots ≤ ms) (hX : isX6 G h x buf rd bks oq rw orw bl off cur und bk) (hc : cur < 10) (hu : und ≤ 8) (hn : n ≤ 64) (hB : isBk G h (bk cur) va n pc dr ad) (hV : isVc h os1 (v :: as1)) (hW : isVc h os2 (w :: as2)) (hp : post (some (.int (comF ad n (w :: as2) (v :: as1)))) h) : gV G z0 X cells slots h 16 [(5, .ref v), (4, .ref w), (3, .ref v0), (2, .int iy), (1, .int ix), (0, .ref x)] [] := by
  obtain ⟨hx, fb, hbks, hfb⟩ := id hX
  obtain ⟨hb, f, hva, hf⟩ := id hB
  induction as1 generalizing v os1 with
  | nil =>
    obtain ⟨-, -, fs, hv, hl⟩ | ⟨u, as1, o, os1, e, -⟩ := hV.cons
    · obtain ⟨x1, x2, x3, x4, x5, x6, x7, x8, rfl⟩ := l8 hl
      obtain ⟨fw, hw⟩ : ∃ fs, h w = some (.inr (5, fs)) := hW.v.kindE
      refine v_aload (pc' := 18) F dX6_common_16  (j := 0) rfl rfl ?_
      refine v_ifnull (pc' := 21) F dX6_common_18 rfl ?_
      refine v_aload (pc' := 23) F dX6_common_21  (j := 1) rfl rfl ?_
      refine v_aload (pc' := 25) F dX6_common_23  (j := 0) rfl rfl ?_
      refine v_callV (pc' := 28) (rt := (some .boolean)) (mcc := 0) (msc := 0) (As := [.ref v]) (st := []) F (fun l => c_X5_wasMadeFrom G z0 l hW) gX6_common_X5_wasMadeFrom rfl hv_X5_wasMadeFrom (by decide) (by decide) hw rfl rfl rfl (Nat.le_of_ble_eq_true rfl) (by omega) (by omega) dX6_common_25 rfl (fun v1 h hq => ?_)
      obtain ⟨rfl, rfl⟩ := hq
      by_cases hm : v ∈ w :: as2
      · rw [if_pos hm]
        refine w_if_eq (tgt := 46) (pc' := 31) F (by omega) dX6_common_28 (by decide) rfl (fun c0 => absurd c0 (by omega)) (fun _ => ?_)
        refine v_aload_n (pc' := 32) F dX6_common_31 rfl (j := 5) rfl rfl ?_
        refine v_getf (pc' := 35) (v := .ref bks) F k_X6_common_6 hx 2 (by decide) m_X6_common_f22 rfl dX6_common_32 rfl ?_
        refine v_aload_n (pc' := 36) F dX6_common_35 rfl (j := 5) rfl rfl ?_
        refine v_getf (pc' := 39) (v := .int (nI cur)) F k_X6_common_6 hx 8 (by decide) m_X6_common_f47 rfl dX6_common_36 rfl ?_
        refine w_qald (pc' := 40) (v := some (bk cur)) F hbks (by omega) (by omega) (hfb cur (by omega)) dX6_common_39 rfl ?_
        refine v_aload (pc' := 42) F dX6_common_40  (j := 0) rfl rfl ?_
        refine v_callV (pc' := 45) (rt := (some .int)) (mcc := 0) (msc := 0) (As := [.ref v]) (st := []) F (fun l => c_X0_indexOf G z0 l (r := some v) hn hB) gX6_common_X0_indexOf rfl hv_X0_indexOf (by decide) (by decide) hb rfl rfl rfl (Nat.le_of_ble_eq_true rfl) (by omega) (by omega) dX6_common_42 rfl (fun v2 h hq => ?_)
        obtain ⟨rfl, rfl⟩ := hq
        exact v_iret F E (by omega) (by omega)  dX6_common_45 (by unfold comF at hp; rw [if_pos hm] at hp; exact hp)
      · rw [if_neg hm]
        refine w_if_eq (tgt := 46) (pc' := 31) F (by omega) dX6_common_28 (by decide) rfl (fun _ => ?_) (fun c0 => absurd rfl c0)
        refine v_aload (pc' := 48) F dX6_common_46  (j := 0) rfl rfl ?_
        refine v_getf (pc' := 51) (v := .null) F k_X6_common_5 hv 0 (by decide) m_X6_common_f136 rfl dX6_common_48 rfl ?_
        refine v_astore0 (pc' := 53) (i := 5) (L' := [(5, .null), (4, .ref w), (3, .ref v0), (2, .int iy), (1, .int ix), (0, .ref x)]) F dX6_common_51  (by decide) rfl rfl ?_
        refine v_goto (tgt := 16) F dX6_common_53 (by decide) ?_
        refine v_aload0 (pc' := 18) F dX6_common_16  (j := 0) rfl rfl ?_
        refine v_ifnullN (tgt := 56) F dX6_common_18 (by decide) ?_
        refine v_iconst (pc' := 57) (v := nI 0) F dX6_common_56 (by decide) rfl ?_
        exact v_iret F E (by omega) (by omega)  dX6_common_57 (by unfold comF at hp; rw [if_neg hm] at hp; exact hp)
    · cases e
  | cons u as ih =>
    obtain ⟨e, -⟩ | ⟨u1, as1, o, os1, e, rfl, hU, fs, hv, hl⟩ := hV.cons
    · cases e
    · cases e
      obtain ⟨x1, x2, x3, x4, x5, x6, x7, x8, rfl⟩ := l8 hl
      obtain ⟨fw, hw⟩ : ∃ fs, h w = some (.inr (5, fs)) := hW.v.kindE
      refine v_aload (pc' := 18) F dX6_common_16  (j := 0) rfl rfl ?_
      refine v_ifnull (pc' := 21) F dX6_common_18 rfl ?_
      refine v_aload (pc' := 23) F dX6_common_21  (j := 1) rfl rfl ?_
      refine v_aload (pc' := 25) F dX6_common_23  (j := 0) rfl rfl ?_
      refine v_callV (pc' := 28) (rt := (some .boolean)) (mcc := 0) (msc := 0) (As := [.ref v]) (st := []) F (fun l => c_X5_wasMadeFrom G z0 l hW) gX6_common_X5_wasMadeFrom rfl hv_X5_wasMadeFrom (by decide) (by decide) hw rfl rfl rfl (Nat.le_of_ble_eq_true rfl) (by omega) (by omega) dX6_common_25 rfl (fun v1 h hq => ?_)
      obtain ⟨rfl, rfl⟩ := hq
      by_cases hm : v ∈ w :: as2
      · rw [if_pos hm]
        refine w_if_eq (tgt := 46) (pc' := 31) F (by omega) dX6_common_28 (by decide) rfl (fun c0 => absurd c0 (by omega)) (fun _ => ?_)
        refine v_aload_n (pc' := 32) F dX6_common_31 rfl (j := 5) rfl rfl ?_
        refine v_getf (pc' := 35) (v := .ref bks) F k_X6_common_6 hx 2 (by decide) m_X6_common_f22 rfl dX6_common_32 rfl ?_
        refine v_aload_n (pc' := 36) F dX6_common_35 rfl (j := 5) rfl rfl ?_
        refine v_getf (pc' := 39) (v := .int (nI cur)) F k_X6_common_6 hx 8 (by decide) m_X6_common_f47 rfl dX6_common_36 rfl ?_
        refine w_qald (pc' := 40) (v := some (bk cur)) F hbks (by omega) (by omega) (hfb cur (by omega)) dX6_common_39 rfl ?_
        refine v_aload (pc' := 42) F dX6_common_40  (j := 0) rfl rfl ?_
        refine v_callV (pc' := 45) (rt := (some .int)) (mcc := 0) (msc := 0) (As := [.ref v]) (st := []) F (fun l => c_X0_indexOf G z0 l (r := some v) hn hB) gX6_common_X0_indexOf rfl hv_X0_indexOf (by decide) (by decide) hb rfl rfl rfl (Nat.le_of_ble_eq_true rfl) (by omega) (by omega) dX6_common_42 rfl (fun v2 h hq => ?_)
        obtain ⟨rfl, rfl⟩ := hq
        exact v_iret F E (by omega) (by omega)  dX6_common_45 (by unfold comF at hp; rw [if_pos hm] at hp; exact hp)
      · rw [if_neg hm]
        refine w_if_eq (tgt := 46) (pc' := 31) F (by omega) dX6_common_28 (by decide) rfl (fun _ => ?_) (fun c0 => absurd rfl c0)
        refine v_aload (pc' := 48) F dX6_common_46  (j := 0) rfl rfl ?_
        refine v_getf (pc' := 51) (v := .ref u) F k_X6_common_5 hv 0 (by decide) m_X6_common_f136 rfl dX6_common_48 rfl ?_
        refine v_astore (pc' := 53) (i := 5) (L' := [(5, .ref u), (4, .ref w), (3, .ref v0), (2, .int iy), (1, .int ix), (0, .ref x)]) F dX6_common_51  (by decide) rfl rfl ?_
        refine v_goto (tgt := 16) F dX6_common_53 (by decide) ?_
        refine v_sub (L' := [(5, .ref u), (4, .ref w), (3, .ref v0), (2, .int iy), (1, .int ix), (0, .ref x)]) [0, 1, 2, 3, 4, 5] rfl ?_
        exact ih hU (by unfold comF at hp; rw [if_neg hm] at hp; exact hp)
set_option maxHeartbeats 4000000 in
set_option maxRecDepth 100000 in
theorem c_X6_common (G : gG) (z0 : Nat) (l : Launch) (hst : l.stackTraces = false) {h : gH} {x buf rd bks oq rw orw bl cur und : Nat} {off : Int32} {bk : Nat → Nat} {va n pc dr : Nat} {ad : Nat → Nat} {as : Nat → List Nat} {os : Nat → List mO} (ix iy : Int32) (hX : isX6 G h x buf rd bks oq rw orw bl off cur und bk) (hc : cur < 10) (hu : und ≤ 8) (hn : n ≤ 64) (hB : isBk G h (bk cur) va n pc dr ad) (hD : isDat h n ad as os) (hro : rw ≠ orw) (hsc : scr G h rw orw oq) : gCX G z0 l yX6_common wsX6_common 7 112 [.ref x, .int ix, .int iy] h (fun v h' => ∃ j m, j < n ∧ m < n ∧ ix = nI j ∧ iy = nI m ∧ qPost G h rw orw oq (.int (comF ad n (ad m :: as m) (ad j :: as j))) v h') (xPost G h rw orw oq (fun E => E = "java/lang/IndexOutOfBoundsException" ∧ ¬ (iR ix n ∧ iR iy n))) 2 12 := by
  obtain ⟨hx, fb, hbks, hfb⟩ := id hX
  obtain ⟨hb, f, hva, hf⟩ := id hB
  obtain ⟨⟨f0, hrw⟩, ⟨g0, horw⟩, oa, ob, oc, od, hoq⟩ := id hsc
  refine gCX_of hst (cc := cX6_common) (nL := 6) (ret := (some .int)) (by decide) rfl (Nat.le_of_ble_eq_true rfl) ?_
  intro X F E EX _
  change gF G z0 X cX6_common 6 RX6 wsX6_common (some .int) "common" 7 112 _ _ at F
  show gV G z0 X 0 0 h 0 [(0, .ref x), (1, .int ix), (2, .int iy)] []
  refine v_aload_n (pc' := 1) F dX6_common_0 rfl (j := 0) rfl rfl ?_
  refine v_iload_n (pc' := 2) F dX6_common_1 rfl (j := 1) rfl rfl ?_
  refine v_callVX (pc' := 5) (rt := (some (.object "SteadyQueues$Version"))) (mcc := 1) (msc := 6) (As := [.int ix]) (st := []) F EX (fun l hst => c_X6_needVersion G z0 l hst ix hX hc hu hn hB) (fun E h' q => ⟨⟨q.2.1, fun z => q.2.2 z.1⟩, by rw [q.1]; exact hsc, by rw [q.1]; exact gfr.rf⟩) gX6_common_X6_needVersion rfl hv_X6_needVersion (by decide) (by decide) hx rfl rfl rfl (Nat.le_of_ble_eq_true rfl) (by omega) (by omega) dX6_common_2 rfl (fun v1 h hq => ?_)
  obtain ⟨j, hj, rfl, rfl, rfl⟩ := hq
  refine v_astore_n (pc' := 6) (i := 3) (L' := [(3, .ref (ad j)), (0, .ref x), (1, .int (nI j)), (2, .int iy)]) F dX6_common_5 rfl (by decide) rfl rfl ?_
  refine v_aload_n (pc' := 7) F dX6_common_6 rfl (j := 1) rfl rfl ?_
  refine v_iload_n (pc' := 8) F dX6_common_7 rfl (j := 3) rfl rfl ?_
  refine v_callVX (pc' := 11) (rt := (some (.object "SteadyQueues$Version"))) (mcc := 1) (msc := 6) (As := [.int iy]) (st := []) F EX (fun l hst => c_X6_needVersion G z0 l hst iy hX hc hu hn hB) (fun E h' q => ⟨⟨q.2.1, fun z => q.2.2 z.2⟩, by rw [q.1]; exact hsc, by rw [q.1]; exact gfr.rf⟩) gX6_common_X6_needVersion rfl hv_X6_needVersion (by decide) (by decide) hx rfl rfl rfl (Nat.le_of_ble_eq_true rfl) (by omega) (by omega) dX6_common_8 rfl (fun v2 h hq => ?_)
  obtain ⟨m, hm, rfl, rfl, rfl⟩ := hq
  refine v_astore (pc' := 13) (i := 4) (L' := [(4, .ref (ad m)), (3, .ref (ad j)), (0, .ref x), (1, .int (nI j)), (2, .int (nI m))]) F dX6_common_11  (by decide) rfl rfl ?_
  refine v_aload_n (pc' := 14) F dX6_common_13 rfl (j := 1) rfl rfl ?_
  refine v_astore (pc' := 16) (i := 5) (L' := [(5, .ref (ad j)), (4, .ref (ad m)), (3, .ref (ad j)), (0, .ref x), (1, .int (nI j)), (2, .int (nI m))]) F dX6_common_14  (by decide) rfl rfl ?_
  refine v_sub (L' := [(5, .ref (ad j)), (4, .ref (ad m)), (3, .ref (ad j)), (2, .int (nI m)), (1, .int (nI j)), (0, .ref x)]) [0, 1, 2, 5, 4, 3] rfl ?_
  have fr3 : gfr [rw, orw, oq] h h := gfr.rf
  exact lp_X6_common F E (by omega) (by omega) hX hc hu hn hB (hD j hj).1 (hD m hm).1 ⟨j, m, hj, hm, rfl, rfl, rfl, ⟨⟨_, hrw⟩, ⟨_, horw⟩, _, _, _, _, hoq⟩, fr3⟩
theorem k_X6_ranked_0 : gCl wsX6_ranked 0 RX0 TX0 4 := ⟨by decide +kernel, rfl⟩
theorem m_X6_ranked_f87 : Cond.fieldLink RX6 87 "SteadyQueues$Book" "count" "I" ∈ wsX6_ranked := by decide +kernel
theorem m_X6_ranked_c119 : Cond.classLink RX6 119 "java/util/NoSuchElementException" ∈ wsX6_ranked := by decide +kernel
theorem m_X6_ranked_iniNSEE : Cond.initialized "java/util/NoSuchElementException" ∈ wsX6_ranked := by decide +kernel
theorem m_X6_ranked_atNSEE : ∀ w ∈ (vx_atN RX6 123 "java/util/NoSuchElementException" gNames).filter goodWord, w ∈ wsX6_ranked := by decide +kernel
theorem hv_X0_longerAhead : yX0_longerAhead.cls = RX0 ∧ yX0_longerAhead.cls ≠ "java/lang/invoke/MethodHandle" ∧ yX0_longerAhead.cls ≠ "java/lang/invoke/VarHandle" ∧ (parseMethodDescriptor yX0_longerAhead.desc).map (fun d => d.parameters.length) = some 1 := by decide +kernel
set_option maxHeartbeats 4000000 in
set_option maxRecDepth 100000 in
theorem lp_X6_ranked {G : gG} {z0 : Nat} {X : gX} {post : Option Value → gH → Prop} {postX : String → gH → Prop} {mc ms cells slots m i : Nat} {h : gH} {x buf rd bks oq rw orw bl cur und : Nat} {off : Int32} {bk : Nat → Nat} {va n pc dr : Nat} {ad : Nat → Nat} {as : Nat → List Nat} {os : Nat → List mO} {pl : Int32} (F : gF G z0 X cX6_ranked 4 RX6 wsX6_ranked (some .int) "ranked" 6 90 mc ms) (E : gE G z0 X post mc ms) (EX : gEX G z0 X postX mc ms) (hcc : cells + 1 ≤ mc) (hss : slots + 6 ≤ ms) (hX : isX6 G h x buf rd bks oq rw orw bl off cur und bk) (hc : cur < 10) (hu : und ≤ 8) (hn : n ≤ 64) (hB : isBk G h (bk cur) va n pc dr ad) (hD : isDat h n ad as os) (hi : i + m = n) (hp : ∀ r, rkF (rkG n os) pl m i = some r → post (some (.int (nI r))) h) (hpx : rkF (rkG n os) pl m i = none → postX "java/util/NoSuchElementException" h) : gV G z0 X cells slots h 12 [(3, .int (nI i)), (2, .ref (bk cur)), (1, .int pl), (0, .ref x)] [] := by
  obtain ⟨hx, fb, hbks, hfb⟩ := id hX
  obtain ⟨hb, f, hva, hf⟩ := id hB
  induction m generalizing i with
  | zero =>
    refine v_iload_n (pc' := 13) F dX6_ranked_12 rfl (j := 0) rfl rfl ?_
    refine v_aload_n (pc' := 14) F dX6_ranked_13 rfl (j := 1) rfl rfl ?_
    refine v_getf (pc' := 17) (v := .int (nI n)) F k_X6_ranked_0 hb 1 (by decide) m_X6_ranked_f87 rfl dX6_ranked_14 rfl ?_
    refine w_icmp_ge (tgt := 37) (pc' := 20) F (by omega) (by omega) dX6_ranked_17 (by decide) rfl (fun _ => ?_) (fun c0 => absurd c0 (by omega))
    exact v_throwN F EX (E := "java/util/NoSuchElementException") (text := "no such place") (num := 8) hv_th_RX6_119_123 m_X6_ranked_c119 m_X6_ranked_iniNSEE m_X6_ranked_atNSEE (by decide +kernel) dX6_ranked_37 rfl dX6_ranked_40 rfl dX6_ranked_41 rfl dX6_ranked_43 rfl dX6_ranked_46 (by decide) (Nat.le_of_ble_eq_true rfl) (by omega) (by omega) (hpx rfl)
  | succ m ih =>
    refine v_iload_n (pc' := 13) F dX6_ranked_12 rfl (j := 0) rfl rfl ?_
    refine v_aload_n (pc' := 14) F dX6_ranked_13 rfl (j := 1) rfl rfl ?_
    refine v_getf (pc' := 17) (v := .int (nI n)) F k_X6_ranked_0 hb 1 (by decide) m_X6_ranked_f87 rfl dX6_ranked_14 rfl ?_
    refine w_icmp_ge (tgt := 37) (pc' := 20) F (by omega) (by omega) dX6_ranked_17 (by decide) rfl (fun c0 => absurd c0 (by omega)) (fun _ => ?_)
    refine v_aload_n (pc' := 21) F dX6_ranked_20 rfl (j := 1) rfl rfl ?_
    refine v_iload_n (pc' := 22) F dX6_ranked_21 rfl (j := 0) rfl rfl ?_
    have hg9 : rkG n os i ≤ n * 1 := gsum_le (fun i _ => by split <;> omega)
    refine v_callV (pc' := 25) (rt := (some .int)) (mcc := 0) (msc := 0) (As := [.int (nI i)]) (st := []) F (fun l => c_X0_longerAhead G z0 l hn hB hD.x hD.o (by omega)) gX6_ranked_X0_longerAhead rfl hv_X0_longerAhead (by decide) (by decide) hb rfl rfl rfl (Nat.le_of_ble_eq_true rfl) (by omega) (by omega) dX6_ranked_22 rfl (fun v1 h hq => ?_)
    obtain ⟨rfl, rfl⟩ := hq
    refine v_iload_n (pc' := 26) F dX6_ranked_25 rfl (j := 2) rfl rfl ?_
    refine v_icmp_ne (tgt := 31) (pc' := 29) F dX6_ranked_26 (by decide) rfl (fun c0 => ?_) (fun c0 => ?_)
    · refine v_iinc (pc' := 34) (j := 0) (x := nI i) (v := nI (i + 1)) (L' := [(3, .int (nI (i + 1))), (2, .ref (bk cur)), (1, .int pl), (0, .ref x)]) F dX6_ranked_31 rfl (nI_add i 1) (by decide) rfl rfl ?_
      refine v_goto (tgt := 12) F dX6_ranked_34 (by decide) ?_
      refine v_sub (L' := [(3, .int (nI (i + 1))), (2, .ref (bk cur)), (1, .int pl), (0, .ref x)]) [0, 1, 2, 3] rfl ?_
      exact ih (i := i + 1) (by omega) (fun r9 z => hp r9 (by unfold rkF; rw [if_neg (show ¬ nI (rkG n os i) = pl from c0)]; exact z)) (fun z => hpx (by unfold rkF; rw [if_neg (show ¬ nI (rkG n os i) = pl from c0)]; exact z))
    · refine v_iload_n (pc' := 30) F dX6_ranked_29 rfl (j := 0) rfl rfl ?_
      exact v_iret F E (by omega) (by omega)  dX6_ranked_30 (hp i (by unfold rkF; rw [if_pos (show nI (rkG n os i) = pl from c0)]))
theorem k_X6_ranked_6 : gCl wsX6_ranked 6 RX6 TX6 10 := ⟨by decide +kernel, rfl⟩
theorem m_X6_ranked_f22 : Cond.fieldLink RX6 22 "SteadyQueues" "books" "[LSteadyQueues$Book;" ∈ wsX6_ranked := by decide +kernel
theorem m_X6_ranked_f47 : Cond.fieldLink RX6 47 "SteadyQueues" "current" "I" ∈ wsX6_ranked := by decide +kernel
set_option maxHeartbeats 4000000 in
set_option maxRecDepth 100000 in
theorem c_X6_ranked (G : gG) (z0 : Nat) (l : Launch) (hst : l.stackTraces = false) {h : gH} {x buf rd bks oq rw orw bl cur und : Nat} {off : Int32} {bk : Nat → Nat} {va n pc dr : Nat} {ad : Nat → Nat} {as : Nat → List Nat} {os : Nat → List mO} (pl : Int32) (hX : isX6 G h x buf rd bks oq rw orw bl off cur und bk) (hc : cur < 10) (hu : und ≤ 8) (hn : n ≤ 64) (hB : isBk G h (bk cur) va n pc dr ad) (hD : isDat h n ad as os) (hro : rw ≠ orw) (hsc : scr G h rw orw oq) : gCX G z0 l yX6_ranked wsX6_ranked 6 90 [.ref x, .int pl] h (fun v h' => ∃ r, rkF (rkG n os) pl n 0 = some r ∧ qPost G h rw orw oq (.int (nI r)) v h') (xPost G h rw orw oq (fun E => E = "java/util/NoSuchElementException" ∧ rkF (rkG n os) pl n 0 = none)) 1 6 := by
  obtain ⟨hx, fb, hbks, hfb⟩ := id hX
  obtain ⟨hb, f, hva, hf⟩ := id hB
  obtain ⟨⟨f0, hrw⟩, ⟨g0, horw⟩, oa, ob, oc, od, hoq⟩ := id hsc
  refine gCX_of hst (cc := cX6_ranked) (nL := 4) (ret := (some .int)) (by decide) rfl (Nat.le_of_ble_eq_true rfl) ?_
  intro X F E EX _
  change gF G z0 X cX6_ranked 4 RX6 wsX6_ranked (some .int) "ranked" 6 90 _ _ at F
  show gV G z0 X 0 0 h 0 [(0, .ref x), (1, .int pl)] []
  refine v_aload_n (pc' := 1) F dX6_ranked_0 rfl (j := 0) rfl rfl ?_
  refine v_getf (pc' := 4) (v := .ref bks) F k_X6_ranked_6 hx 2 (by decide) m_X6_ranked_f22 rfl dX6_ranked_1 rfl ?_
  refine v_aload_n (pc' := 5) F dX6_ranked_4 rfl (j := 0) rfl rfl ?_
  refine v_getf (pc' := 8) (v := .int (nI cur)) F k_X6_ranked_6 hx 8 (by decide) m_X6_ranked_f47 rfl dX6_ranked_5 rfl ?_
  refine w_qald (pc' := 9) (v := some (bk cur)) F hbks (by omega) (by omega) (hfb cur (by omega)) dX6_ranked_8 rfl ?_
  refine v_astore_n (pc' := 10) (i := 2) (L' := [(2, .ref (bk cur)), (0, .ref x), (1, .int pl)]) F dX6_ranked_9 rfl (by decide) rfl rfl ?_
  refine v_iconst (pc' := 11) (v := nI 0) F dX6_ranked_10 (by decide) rfl ?_
  refine v_istore_n (pc' := 12) (i := 3) (L' := [(3, .int (nI 0)), (2, .ref (bk cur)), (0, .ref x), (1, .int pl)]) F dX6_ranked_11 rfl (by decide) rfl rfl ?_
  refine v_sub (L' := [(3, .int (nI 0)), (2, .ref (bk cur)), (1, .int pl), (0, .ref x)]) [0, 1, 3, 2] rfl ?_
  have fr1 : gfr [rw, orw, oq] h h := gfr.rf
  exact lp_X6_ranked (m := n) (i := 0) F E EX (by omega) (by omega) hX hc hu hn hB hD (by omega) (fun r z => ⟨r, z, rfl, ⟨⟨_, hrw⟩, ⟨_, horw⟩, _, _, _, _, hoq⟩, fr1⟩) (fun z => ⟨⟨rfl, z⟩, ⟨⟨_, hrw⟩, ⟨_, horw⟩, _, _, _, _, hoq⟩, fr1⟩)
theorem k_X6_gap_0 : gCl wsX6_gap 0 RX0 TX0 4 := ⟨by decide +kernel, rfl⟩
theorem m_X6_gap_f87 : Cond.fieldLink RX6 87 "SteadyQueues$Book" "count" "I" ∈ wsX6_gap := by decide +kernel
theorem m_X6_gap_f181 : Cond.fieldLink RX6 181 "SteadyQueues$Book" "versions" "[LSteadyQueues$Version;" ∈ wsX6_gap := by decide +kernel
theorem k_X6_gap_6 : gCl wsX6_gap 6 RX6 TX6 10 := ⟨by decide +kernel, rfl⟩
theorem m_X6_gap_f33 : Cond.fieldLink RX6 33 "SteadyQueues" "row" "[I" ∈ wsX6_gap := by decide +kernel
theorem m_X6_gap_f37 : Cond.fieldLink RX6 37 "SteadyQueues" "otherRow" "[I" ∈ wsX6_gap := by decide +kernel
theorem hv_X5_valuesByWayInto : yX5_valuesByWayInto.cls = RX5 ∧ yX5_valuesByWayInto.cls ≠ "java/lang/invoke/MethodHandle" ∧ yX5_valuesByWayInto.cls ≠ "java/lang/invoke/VarHandle" ∧ (parseMethodDescriptor yX5_valuesByWayInto.desc).map (fun d => d.parameters.length) = some 1 := by decide +kernel
set_option maxHeartbeats 4000000 in
set_option maxRecDepth 100000 in
theorem lp_X6_gap {G : gG} {z0 : Nat} {X : gX} {post : Option Value → gH → Prop} {mc ms cells slots m i : Nat} {h : gH} {x buf rd bks oq rw orw bl cur und : Nat} {off : Int32} {bk : Nat → Nat} {va n pc dr : Nat} {ad : Nat → Nat} {as : Nat → List Nat} {os : Nat → List mO} (F : gF G z0 X cX6_gap 5 RX6 wsX6_gap (some .int) "gap" 3 70 mc ms) (E : gE G z0 X post mc ms) (hcc : cells ≤ mc) (hss : slots ≤ ms) (hc : cur < 10) (hu : und ≤ 8) (hn : n ≤ 64) (hro : rw ≠ orw) (hX : isX6 G h x buf rd bks oq rw orw bl off cur und bk) (hB : isBk G h (bk cur) va n pc dr ad) (hD : isDat h n ad as os) (hsc : scr G h rw orw oq) (hi : i + m = n) (hp : ∀ h', scr G h' rw orw oq → gfr [rw, orw, oq] h h' → post (some (.int (nI 0))) h') : gV G z0 X cells slots h 14 [(3, .int (nI i)), (2, .int (nI 0)), (1, .ref (bk cur)), (0, .ref x)] [] := by
  induction m generalizing i h with
  | zero =>
    obtain ⟨hx, fb, hbks, hfb⟩ := id hX
    obtain ⟨hb, f, hva, hf⟩ := id hB
    obtain ⟨⟨f0, hrw⟩, ⟨g0, horw⟩, oa, ob, oc, od, hoq⟩ := id hsc
    refine v_iload_n (pc' := 15) F dX6_gap_14 rfl (j := 0) rfl rfl ?_
    refine v_aload_n (pc' := 16) F dX6_gap_15 rfl (j := 2) rfl rfl ?_
    refine v_getf (pc' := 19) (v := .int (nI n)) F k_X6_gap_0 hb 1 (by decide) m_X6_gap_f87 rfl dX6_gap_16 rfl ?_
    refine w_icmp_ge (tgt := 64) (pc' := 22) F (by omega) (by omega) dX6_gap_19 (by decide) rfl (fun _ => ?_) (fun c0 => absurd c0 (by omega))
    refine v_iload_n (pc' := 65) F dX6_gap_64 rfl (j := 1) rfl rfl ?_
    exact v_iret F E (by omega) (by omega)  dX6_gap_65 (hp h hsc gfr.rf)
  | succ m ih =>
    obtain ⟨hx, fb, hbks, hfb⟩ := id hX
    obtain ⟨hb, f, hva, hf⟩ := id hB
    obtain ⟨⟨f0, hrw⟩, ⟨g0, horw⟩, oa, ob, oc, od, hoq⟩ := id hsc
    have hi9 : i < n := by omega
    refine v_iload_n (pc' := 15) F dX6_gap_14 rfl (j := 0) rfl rfl ?_
    refine v_aload_n (pc' := 16) F dX6_gap_15 rfl (j := 2) rfl rfl ?_
    refine v_getf (pc' := 19) (v := .int (nI n)) F k_X6_gap_0 hb 1 (by decide) m_X6_gap_f87 rfl dX6_gap_16 rfl ?_
    refine w_icmp_ge (tgt := 64) (pc' := 22) F (by omega) (by omega) dX6_gap_19 (by decide) rfl (fun c0 => absurd c0 (by omega)) (fun _ => ?_)
    obtain ⟨fsi, hki⟩ := (hD i hi9).1.v.kindE
    refine v_aload_n (pc' := 23) F dX6_gap_22 rfl (j := 2) rfl rfl ?_
    refine v_getf (pc' := 26) (v := .ref va) F k_X6_gap_0 hb 0 (by decide) m_X6_gap_f181 rfl dX6_gap_23 rfl ?_
    refine v_iload_n (pc' := 27) F dX6_gap_26 rfl (j := 0) rfl rfl ?_
    refine w_vald (pc' := 28) (v := some (ad i)) F hva (by omega) (by omega) (hf i (by omega)) dX6_gap_27 rfl ?_
    refine v_astore (pc' := 30) (i := 4) (L' := [(4, .ref (ad i)), (3, .int (nI i)), (2, .int (nI 0)), (1, .ref (bk cur)), (0, .ref x)]) F dX6_gap_28  (by decide) rfl rfl ?_
    refine v_aload_n (pc' := 31) F dX6_gap_30 rfl (j := 4) rfl rfl ?_
    refine v_aload (pc' := 33) F dX6_gap_31  (j := 0) rfl rfl ?_
    refine v_aload_n (pc' := 34) F dX6_gap_33 rfl (j := 4) rfl rfl ?_
    refine v_getf (pc' := 37) (v := .ref rw) F k_X6_gap_6 hx 4 (by decide) m_X6_gap_f33 rfl dX6_gap_34 rfl ?_
    have hO1 := (hD i hi9).2
    have hQ1 := (qOf_J hO1.1).vals
    refine v_callV (pc' := 40) (rt := (some .int)) (mcc := 0) (msc := 0) (As := [.ref rw]) (st := [.ref x]) F (fun l => c_X5_valuesInto G z0 l (by omega) (b := (os i).length) (by omega) (qOf_J hO1.1) (hD.x i hi9).choose_spec hrw) gX6_gap_X5_valuesInto rfl hv_X5_valuesInto (by decide) (by decide) hki rfl rfl rfl (Nat.le_of_ble_eq_true rfl) (by omega) (by omega) dX6_gap_37 rfl (fun v2 h1 hq => ?_)
    obtain ⟨rfl, f1, w1, g1, k1⟩ := hq
    rw [hQ1] at g1 ⊢
    have hlv1 := wVals_le (os i)
    have pv1 := gfr.pv k1 (by intro a9 m9 ci9 fs9 c9 z9; rw [List.mem_singleton.mp m9, hrw] at z9; cases z9)
    refine v_aload (pc' := 42) F dX6_gap_40  (j := 0) rfl rfl ?_
    refine v_aload_n (pc' := 43) F dX6_gap_42 rfl (j := 4) rfl rfl ?_
    have g3 := k1 _ _ (gnc (g_neA hx hrw) gn0) hx
    refine v_getf (pc' := 46) (v := .ref orw) F k_X6_gap_6 g3 5 (by decide) m_X6_gap_f37 rfl dX6_gap_43 rfl ?_
    have g4 := k1 _ _ (gnc hro.symm gn0) horw
    have g7 := k1 _ _ (gnc (g_neA hki hrw) gn0) hki
    refine v_callV (pc' := 49) (rt := (some .int)) (mcc := 0) (msc := 0) (As := [.ref orw]) (st := [.int (nI ((wVals (os i)).length)), .ref x]) F (fun l => c_X5_valuesByWayInto G z0 l (by omega) hO1.1 ((hD i hi9).1.pv pv1).v g4 (by omega)) gX6_gap_X5_valuesByWayInto rfl hv_X5_valuesByWayInto (by decide) (by decide) g7 rfl rfl rfl (Nat.le_of_ble_eq_true rfl) (by omega) (by omega) dX6_gap_46 rfl (fun v6 h5 hq => ?_)
    obtain ⟨rfl, f2, w2, g2, k2⟩ := hq
    have pv2 := gfr.pv k2 (by intro a9 m9 ci9 fs9 c9 z9; rw [List.mem_singleton.mp m9, g4] at z9; cases z9)
    have g8 := k2 _ _ (gnc hro gn0) w1
    have g1b := g1
    have g9 := k2 _ _ (gnc (g_neA g3 g4) gn0) g3
    refine v_callV (pc' := 52) (rt := (some .boolean)) (mcc := 0) (msc := 0) (As := [.int (nI ((wVals (os i)).length)), .int (nI ((wVals (os i)).length))]) (st := []) F (fun l => c_X6_sameRows (bk := bk) G z0 l g9 g8 w2 g1 g2 (by omega) (by omega)) gX6_gap_X6_sameRows rfl hv_X6_sameRows (by decide) (by decide) g9 rfl rfl rfl (Nat.le_of_ble_eq_true rfl) (by omega) (by omega) dX6_gap_49 rfl (fun v10 h5 hq => ?_)
    obtain ⟨rfl, rfl⟩ := hq
    rw [if_pos rfl]
    refine w_if_ne (tgt := 58) (pc' := 55) F (by omega) dX6_gap_52 (by decide) rfl (fun _ => ?_) (fun c0 => absurd c0 (by omega))
    refine v_iinc (pc' := 61) (j := 1) (x := nI i) (v := nI (i + 1)) (L' := [(3, .int (nI (i + 1))), (4, .ref (ad i)), (2, .int (nI 0)), (1, .ref (bk cur)), (0, .ref x)]) F dX6_gap_58 rfl (nI_add i 1) (by decide) rfl rfl ?_
    refine v_goto (tgt := 14) F dX6_gap_61 (by decide) ?_
    refine v_sub (L' := [(3, .int (nI (i + 1))), (2, .int (nI 0)), (1, .ref (bk cur)), (0, .ref x)]) [0, 2, 3, 4] rfl ?_
    have g11 := k1 _ _ (gnc (g_neQI hbks hrw) gn0) hbks
    have g12 := k2 _ _ (gnc (g_neQI hbks horw) gn0) g11
    have g13 := k1 _ _ (gnc (g_neA hb hrw) gn0) hb
    have g14 := k2 _ _ (gnc (g_neA g13 g4) gn0) g13
    have g15 := k1 _ _ (gnc (g_neQI hva hrw) gn0) hva
    have g16 := k2 _ _ (gnc (g_neQI hva horw) gn0) g15
    have fr17 : gfr [rw, orw, oq] h h5 := (gfr.t (gfr.mono k1 (by intro q9 z9 m9; apply z9; simp only [List.mem_cons, List.not_mem_nil, or_false] at m9 ⊢; omega)) (gfr.mono k2 (by intro q9 z9 m9; apply z9; simp only [List.mem_cons, List.not_mem_nil, or_false] at m9 ⊢; omega)))
    have g18 := k1 _ _ (gnc (g_neA hoq hrw) gn0) hoq
    have g19 := k2 _ _ (gnc (g_neA g18 g4) gn0) g18
    exact ih (i := i + 1) ⟨g9, fb, g12, hfb⟩ ⟨g14, f, g16, hf⟩ ((hD.pv pv1).pv pv2) ⟨⟨_, g8⟩, ⟨_, w2⟩, _, _, _, _, g19⟩ (by omega) (fun h9 sc9 fr9 => hp h9 sc9 (gfr.t fr17 fr9))
theorem m_X6_gap_f22 : Cond.fieldLink RX6 22 "SteadyQueues" "books" "[LSteadyQueues$Book;" ∈ wsX6_gap := by decide +kernel
theorem m_X6_gap_f47 : Cond.fieldLink RX6 47 "SteadyQueues" "current" "I" ∈ wsX6_gap := by decide +kernel
set_option maxHeartbeats 4000000 in
set_option maxRecDepth 100000 in
theorem c_X6_gap (G : gG) (z0 : Nat) (l : Launch) {h : gH} {x buf rd bks oq rw orw bl cur und : Nat} {off : Int32} {bk : Nat → Nat} {va n pc dr : Nat} {ad : Nat → Nat} {as : Nat → List Nat} {os : Nat → List mO} (hX : isX6 G h x buf rd bks oq rw orw bl off cur und bk) (hc : cur < 10) (hu : und ≤ 8) (hn : n ≤ 64) (hB : isBk G h (bk cur) va n pc dr ad) (hD : isDat h n ad as os) (hro : rw ≠ orw) (hsc : scr G h rw orw oq) : gC G z0 l yX6_gap wsX6_gap 3 70 [.ref x] h (qPost G h rw orw oq (.int (nI 0))) 0 0 := by
  obtain ⟨hx, fb, hbks, hfb⟩ := id hX
  obtain ⟨hb, f, hva, hf⟩ := id hB
  obtain ⟨⟨f0, hrw⟩, ⟨g0, horw⟩, oa, ob, oc, od, hoq⟩ := id hsc
  refine gC_of (cc := cX6_gap) (nL := 5) (ret := (some .int)) (by decide) rfl (Nat.le_of_ble_eq_true rfl) ?_
  intro X F E _
  change gF G z0 X cX6_gap 5 RX6 wsX6_gap (some .int) "gap" 3 70 _ _ at F
  show gV G z0 X 0 0 h 0 [(0, .ref x)] []
  refine v_aload_n (pc' := 1) F dX6_gap_0 rfl (j := 0) rfl rfl ?_
  refine v_getf (pc' := 4) (v := .ref bks) F k_X6_gap_6 hx 2 (by decide) m_X6_gap_f22 rfl dX6_gap_1 rfl ?_
  refine v_aload_n (pc' := 5) F dX6_gap_4 rfl (j := 0) rfl rfl ?_
  refine v_getf (pc' := 8) (v := .int (nI cur)) F k_X6_gap_6 hx 8 (by decide) m_X6_gap_f47 rfl dX6_gap_5 rfl ?_
  refine w_qald (pc' := 9) (v := some (bk cur)) F hbks (by omega) (by omega) (hfb cur (by omega)) dX6_gap_8 rfl ?_
  refine v_astore_n (pc' := 10) (i := 1) (L' := [(1, .ref (bk cur)), (0, .ref x)]) F dX6_gap_9 rfl (by decide) rfl rfl ?_
  refine v_iconst (pc' := 11) (v := nI 0) F dX6_gap_10 (by decide) rfl ?_
  refine v_istore_n (pc' := 12) (i := 2) (L' := [(2, .int (nI 0)), (1, .ref (bk cur)), (0, .ref x)]) F dX6_gap_11 rfl (by decide) rfl rfl ?_
  refine v_iconst (pc' := 13) (v := nI 0) F dX6_gap_12 (by decide) rfl ?_
  refine v_istore_n (pc' := 14) (i := 3) (L' := [(3, .int (nI 0)), (2, .int (nI 0)), (1, .ref (bk cur)), (0, .ref x)]) F dX6_gap_13 rfl (by decide) rfl rfl ?_
  refine v_sub (L' := [(3, .int (nI 0)), (2, .int (nI 0)), (1, .ref (bk cur)), (0, .ref x)]) [0, 1, 2, 3] rfl ?_
  exact lp_X6_gap (m := n) (i := 0) F E (by omega) (by omega) hc hu hn hro hX hB hD hsc (by omega) (fun h9 sc9 fr9 => ⟨rfl, sc9, fr9⟩)
