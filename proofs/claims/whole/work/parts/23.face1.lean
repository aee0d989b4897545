/-! STEADYQUEUES: ITS HELPERS -/
def iR (x : Int32) (n : Nat) : Prop := ∃ j : Nat, j < n ∧ x = nI j
theorem iR_neg {x : Int32} {n : Nat} (hn : n < 2147483648) (h : x < 0) : ¬ iR x n := fun ⟨j, hj, e⟩ => nI_pos (n := j) (by omega) (by rw [e] at h; exact h)
theorem iR_ge {x : Int32} {n : Nat} (hn : n < 2147483648) (h : nI n ≤ x) : ¬ iR x n := fun ⟨j, hj, e⟩ => nI_ge hj (by omega) (by rw [e] at h; exact h)
def isX6 (G : gG) (h : gH) (x buf rd bks oq rw orw bl : Nat) (off : Int32) (cur und : Nat) (bk : Nat → Nat) : Prop := h x = some (.inr (6, [.ref buf, .ref rd, .ref bks, .ref oq, .ref rw, .ref orw, .int (nI bl), .int off, .int (nI cur), .int (nI und)])) ∧ ∃ fb, h bks = some (oQ G 10 fb) ∧ ∀ i, i < 10 → fb i = some (bk i)
theorem k_X6_needVersion_6 : gCl wsX6_needVersion 6 RX6 TX6 10 := ⟨by decide +kernel, rfl⟩
theorem m_X6_needVersion_f22 : Cond.fieldLink RX6 22 "SteadyQueues" "books" "[LSteadyQueues$Book;" ∈ wsX6_needVersion := by decide +kernel
theorem m_X6_needVersion_f47 : Cond.fieldLink RX6 47 "SteadyQueues" "current" "I" ∈ wsX6_needVersion := by decide +kernel
theorem hv_th_RX6_241_245 : gTh RX6 241 245 "java/lang/IndexOutOfBoundsException" := ⟨by decide +kernel, by decide +kernel, by decide +kernel, by decide +kernel, by decide +kernel⟩
theorem m_X6_needVersion_c241 : Cond.classLink RX6 241 "java/lang/IndexOutOfBoundsException" ∈ wsX6_needVersion := by decide +kernel
theorem m_X6_needVersion_iniIOOBE : Cond.initialized "java/lang/IndexOutOfBoundsException" ∈ wsX6_needVersion := by decide +kernel
theorem m_X6_needVersion_atIOOBE : ∀ w ∈ (vx_atS RX6 245 "java/lang/IndexOutOfBoundsException" gNames).filter goodWord, w ∈ wsX6_needVersion := by decide +kernel
theorem k_X6_needVersion_0 : gCl wsX6_needVersion 0 RX0 TX0 4 := ⟨by decide +kernel, rfl⟩
theorem m_X6_needVersion_f87 : Cond.fieldLink RX6 87 "SteadyQueues$Book" "count" "I" ∈ wsX6_needVersion := by decide +kernel
theorem m_X6_needVersion_f181 : Cond.fieldLink RX6 181 "SteadyQueues$Book" "versions" "[LSteadyQueues$Version;" ∈ wsX6_needVersion := by decide +kernel
set_option maxHeartbeats 4000000 in
set_option maxRecDepth 100000 in
theorem c_X6_needVersion (G : gG) (z0 : Nat) (l : Launch) (hst : l.stackTraces = false) {h : gH} {x buf rd bks oq rw orw bl cur und : Nat} {off : Int32} {bk : Nat → Nat} {va n pc dr : Nat} {ad : Nat → Nat} (ix : Int32) (hX : isX6 G h x buf rd bks oq rw orw bl off cur und bk) (hc : cur < 10) (hu : und ≤ 8) (hn : n ≤ 64) (hB : isBk G h (bk cur) va n pc dr ad) : gCX G z0 l yX6_needVersion wsX6_needVersion 6 90 [.ref x, .int ix] h (fun v h' => ∃ j, j < n ∧ ix = nI j ∧ v = some (va_rf (some (ad j))) ∧ h' = h) (fun E h' => h' = h ∧ E = "java/lang/IndexOutOfBoundsException" ∧ ¬ iR ix n) 1 6 := by
  obtain ⟨hx, fb, hbks, hfb⟩ := id hX
  obtain ⟨hb, f, hva, hf⟩ := id hB
  rcases pk_ix ix (n := n) (by omega) with h1 | h1 | ⟨j, hj, rfl⟩
  · refine gCX_of hst (cc := cX6_needVersion) (nL := 3) (ret := (some (.object "SteadyQueues$Version"))) (by decide) rfl (Nat.le_of_ble_eq_true rfl) ?_
    intro X F E EX _
    change gF G z0 X cX6_needVersion 3 RX6 wsX6_needVersion (some (.object "SteadyQueues$Version")) "needVersion" 6 90 _ _ at F
    show gV G z0 X 0 0 h 0 [(0, .ref x), (1, .int ix)] []
    refine v_aload_n (pc' := 1) F dX6_needVersion_0 rfl (j := 0) rfl rfl ?_
    refine v_getf (pc' := 4) (v := .ref bks) F k_X6_needVersion_6 hx 2 (by decide) m_X6_needVersion_f22 rfl dX6_needVersion_1 rfl ?_
    refine v_aload_n (pc' := 5) F dX6_needVersion_4 rfl (j := 0) rfl rfl ?_
    refine v_getf (pc' := 8) (v := .int (nI cur)) F k_X6_needVersion_6 hx 8 (by decide) m_X6_needVersion_f47 rfl dX6_needVersion_5 rfl ?_
    refine w_qald (pc' := 9) (v := some (bk cur)) F hbks (by omega) (by omega) (hfb cur (by omega)) dX6_needVersion_8 rfl ?_
    refine v_astore_n (pc' := 10) (i := 2) (L' := [(2, .ref (bk cur)), (0, .ref x), (1, .int ix)]) F dX6_needVersion_9 rfl (by decide) rfl rfl ?_
    refine v_iload_n (pc' := 11) F dX6_needVersion_10 rfl (j := 2) rfl rfl ?_
    refine v_if_lt (tgt := 22) (pc' := 14) F dX6_needVersion_11 (by decide) rfl (fun _ => ?_) (fun c0 => absurd h1 c0)
    exact v_throw F EX (E := "java/lang/IndexOutOfBoundsException") (text := "no such version") (num := 12) hv_th_RX6_241_245 m_X6_needVersion_c241 m_X6_needVersion_iniIOOBE m_X6_needVersion_atIOOBE (by decide +kernel) dX6_needVersion_22 rfl dX6_needVersion_25 rfl dX6_needVersion_26 rfl dX6_needVersion_28 rfl dX6_needVersion_31 (by decide) (Nat.le_of_ble_eq_true rfl) (by omega) (by omega) ⟨rfl, rfl, iR_neg (by omega) h1⟩
  · refine gCX_of hst (cc := cX6_needVersion) (nL := 3) (ret := (some (.object "SteadyQueues$Version"))) (by decide) rfl (Nat.le_of_ble_eq_true rfl) ?_
    intro X F E EX _
    change gF G z0 X cX6_needVersion 3 RX6 wsX6_needVersion (some (.object "SteadyQueues$Version")) "needVersion" 6 90 _ _ at F
    show gV G z0 X 0 0 h 0 [(0, .ref x), (1, .int ix)] []
    refine v_aload_n (pc' := 1) F dX6_needVersion_0 rfl (j := 0) rfl rfl ?_
    refine v_getf (pc' := 4) (v := .ref bks) F k_X6_needVersion_6 hx 2 (by decide) m_X6_needVersion_f22 rfl dX6_needVersion_1 rfl ?_
    refine v_aload_n (pc' := 5) F dX6_needVersion_4 rfl (j := 0) rfl rfl ?_
    refine v_getf (pc' := 8) (v := .int (nI cur)) F k_X6_needVersion_6 hx 8 (by decide) m_X6_needVersion_f47 rfl dX6_needVersion_5 rfl ?_
    refine w_qald (pc' := 9) (v := some (bk cur)) F hbks (by omega) (by omega) (hfb cur (by omega)) dX6_needVersion_8 rfl ?_
    refine v_astore_n (pc' := 10) (i := 2) (L' := [(2, .ref (bk cur)), (0, .ref x), (1, .int ix)]) F dX6_needVersion_9 rfl (by decide) rfl rfl ?_
    refine v_iload_n (pc' := 11) F dX6_needVersion_10 rfl (j := 2) rfl rfl ?_
    refine v_if_lt (tgt := 22) (pc' := 14) F dX6_needVersion_11 (by decide) rfl (fun c1 => ?_) (fun c1 => ?_)
    · exact v_throw F EX (E := "java/lang/IndexOutOfBoundsException") (text := "no such version") (num := 12) hv_th_RX6_241_245 m_X6_needVersion_c241 m_X6_needVersion_iniIOOBE m_X6_needVersion_atIOOBE (by decide +kernel) dX6_needVersion_22 rfl dX6_needVersion_25 rfl dX6_needVersion_26 rfl dX6_needVersion_28 rfl dX6_needVersion_31 (by decide) (Nat.le_of_ble_eq_true rfl) (by omega) (by omega) ⟨rfl, rfl, iR_ge (by omega) h1⟩
    · refine v_iload_n (pc' := 15) F dX6_needVersion_14 rfl (j := 2) rfl rfl ?_
      refine v_aload_n (pc' := 16) F dX6_needVersion_15 rfl (j := 0) rfl rfl ?_
      refine v_getf (pc' := 19) (v := .int (nI n)) F k_X6_needVersion_0 hb 1 (by decide) m_X6_needVersion_f87 rfl dX6_needVersion_16 rfl ?_
      refine v_icmp_lt (tgt := 32) (pc' := 22) F dX6_needVersion_19 (by decide) rfl (fun c0 => absurd c0 (Int32.not_lt.mpr h1)) (fun _ => ?_)
      exact v_throw F EX (E := "java/lang/IndexOutOfBoundsException") (text := "no such version") (num := 12) hv_th_RX6_241_245 m_X6_needVersion_c241 m_X6_needVersion_iniIOOBE m_X6_needVersion_atIOOBE (by decide +kernel) dX6_needVersion_22 rfl dX6_needVersion_25 rfl dX6_needVersion_26 rfl dX6_needVersion_28 rfl dX6_needVersion_31 (by decide) (Nat.le_of_ble_eq_true rfl) (by omega) (by omega) ⟨rfl, rfl, iR_ge (by omega) h1⟩
  · refine gCX_of hst (cc := cX6_needVersion) (nL := 3) (ret := (some (.object "SteadyQueues$Version"))) (by decide) rfl (Nat.le_of_ble_eq_true rfl) ?_
    intro X F E EX _
    change gF G z0 X cX6_needVersion 3 RX6 wsX6_needVersion (some (.object "SteadyQueues$Version")) "needVersion" 6 90 _ _ at F
    show gV G z0 X 0 0 h 0 [(0, .ref x), (1, .int (nI j))] []
    refine v_aload_n (pc' := 1) F dX6_needVersion_0 rfl (j := 0) rfl rfl ?_
    refine v_getf (pc' := 4) (v := .ref bks) F k_X6_needVersion_6 hx 2 (by decide) m_X6_needVersion_f22 rfl dX6_needVersion_1 rfl ?_
    refine v_aload_n (pc' := 5) F dX6_needVersion_4 rfl (j := 0) rfl rfl ?_
    refine v_getf (pc' := 8) (v := .int (nI cur)) F k_X6_needVersion_6 hx 8 (by decide) m_X6_needVersion_f47 rfl dX6_needVersion_5 rfl ?_
    refine w_qald (pc' := 9) (v := some (bk cur)) F hbks (by omega) (by omega) (hfb cur (by omega)) dX6_needVersion_8 rfl ?_
    refine v_astore_n (pc' := 10) (i := 2) (L' := [(2, .ref (bk cur)), (0, .ref x), (1, .int (nI j))]) F dX6_needVersion_9 rfl (by decide) rfl rfl ?_
    refine v_iload_n (pc' := 11) F dX6_needVersion_10 rfl (j := 2) rfl rfl ?_
    refine w_if_lt (tgt := 22) (pc' := 14) F (by omega) dX6_needVersion_11 (by decide) rfl (fun c0 => absurd c0 (by omega)) (fun _ => ?_)
    refine v_iload_n (pc' := 15) F dX6_needVersion_14 rfl (j := 2) rfl rfl ?_
    refine v_aload_n (pc' := 16) F dX6_needVersion_15 rfl (j := 0) rfl rfl ?_
    refine v_getf (pc' := 19) (v := .int (nI n)) F k_X6_needVersion_0 hb 1 (by decide) m_X6_needVersion_f87 rfl dX6_needVersion_16 rfl ?_
    refine w_icmp_lt (tgt := 32) (pc' := 22) F (by omega) (by omega) dX6_needVersion_19 (by decide) rfl (fun _ => ?_) (fun c0 => absurd c0 (by omega))
    refine v_aload_n (pc' := 33) F dX6_needVersion_32 rfl (j := 0) rfl rfl ?_
    refine v_getf (pc' := 36) (v := .ref va) F k_X6_needVersion_0 hb 0 (by decide) m_X6_needVersion_f181 rfl dX6_needVersion_33 rfl ?_
    refine v_iload_n (pc' := 37) F dX6_needVersion_36 rfl (j := 2) rfl rfl ?_
    refine w_vald (pc' := 38) (v := some (ad j)) F hva (by omega) (by omega) (hf j (by omega)) dX6_needVersion_37 rfl ?_
    exact v_aret (r := some (ad j)) F E (by omega) (by omega) dX6_needVersion_38 ⟨j, hj, rfl, rfl, rfl⟩
theorem k_X6_needRoom_6 : gCl wsX6_needRoom 6 RX6 TX6 10 := ⟨by decide +kernel, rfl⟩
theorem m_X6_needRoom_f22 : Cond.fieldLink RX6 22 "SteadyQueues" "books" "[LSteadyQueues$Book;" ∈ wsX6_needRoom := by decide +kernel
theorem m_X6_needRoom_f47 : Cond.fieldLink RX6 47 "SteadyQueues" "current" "I" ∈ wsX6_needRoom := by decide +kernel
theorem k_X6_needRoom_0 : gCl wsX6_needRoom 0 RX0 TX0 4 := ⟨by decide +kernel, rfl⟩
theorem m_X6_needRoom_f87 : Cond.fieldLink RX6 87 "SteadyQueues$Book" "count" "I" ∈ wsX6_needRoom := by decide +kernel
theorem hv_th_RX6_208_210 : gTh RX6 208 210 "java/lang/IllegalStateException" := ⟨by decide +kernel, by decide +kernel, by decide +kernel, by decide +kernel, by decide +kernel⟩
theorem m_X6_needRoom_c208 : Cond.classLink RX6 208 "java/lang/IllegalStateException" ∈ wsX6_needRoom := by decide +kernel
theorem m_X6_needRoom_iniISE : Cond.initialized "java/lang/IllegalStateException" ∈ wsX6_needRoom := by decide +kernel
theorem m_X6_needRoom_atISE : ∀ w ∈ (vx_atS RX6 210 "java/lang/IllegalStateException" gNames).filter goodWord, w ∈ wsX6_needRoom := by decide +kernel
set_option maxHeartbeats 4000000 in
set_option maxRecDepth 100000 in
theorem c_X6_needRoom (G : gG) (z0 : Nat) (l : Launch) (hst : l.stackTraces = false) {h : gH} {x buf rd bks oq rw orw bl cur und : Nat} {off : Int32} {bk : Nat → Nat} {va n pc dr : Nat} {ad : Nat → Nat} (hX : isX6 G h x buf rd bks oq rw orw bl off cur und bk) (hc : cur < 10) (hu : und ≤ 8) (hn : n ≤ 64) (hB : isBk G h (bk cur) va n pc dr ad) : gCX G z0 l yX6_needRoom wsX6_needRoom 6 90 [.ref x] h (fun v h' => v = none ∧ n < 64 ∧ h' = h) (fun E h' => h' = h ∧ E = "java/lang/IllegalStateException" ∧ ¬ n < 64) 1 6 := by
  obtain ⟨hx, fb, hbks, hfb⟩ := id hX
  obtain ⟨hb, f, hva, hf⟩ := id hB
  refine gCX_of hst (cc := cX6_needRoom) (nL := 1) (ret := none) (by decide) rfl (Nat.le_of_ble_eq_true rfl) ?_
  intro X F E EX _
  change gF G z0 X cX6_needRoom 1 RX6 wsX6_needRoom none "needRoom" 6 90 _ _ at F
  show gV G z0 X 0 0 h 0 [(0, .ref x)] []
  refine v_aload_n (pc' := 1) F dX6_needRoom_0 rfl (j := 0) rfl rfl ?_
  refine v_getf (pc' := 4) (v := .ref bks) F k_X6_needRoom_6 hx 2 (by decide) m_X6_needRoom_f22 rfl dX6_needRoom_1 rfl ?_
  refine v_aload_n (pc' := 5) F dX6_needRoom_4 rfl (j := 0) rfl rfl ?_
  refine v_getf (pc' := 8) (v := .int (nI cur)) F k_X6_needRoom_6 hx 8 (by decide) m_X6_needRoom_f47 rfl dX6_needRoom_5 rfl ?_
  refine w_qald (pc' := 9) (v := some (bk cur)) F hbks (by omega) (by omega) (hfb cur (by omega)) dX6_needRoom_8 rfl ?_
  refine v_getf (pc' := 12) (v := .int (nI n)) F k_X6_needRoom_0 hb 1 (by decide) m_X6_needRoom_f87 rfl dX6_needRoom_9 rfl ?_
  refine v_bipush (pc' := 14) (v := nI 64) F dX6_needRoom_12 (by decide) rfl ?_
  refine w_icmp_lt (tgt := 27) (pc' := 17) F (by omega) (by omega) dX6_needRoom_14 (by decide) rfl (fun c0 => ?_) (fun c0 => ?_)
  · exact v_vret F E (by omega) (by omega)  dX6_needRoom_27 ⟨rfl, by omega, rfl⟩
  · exact v_throw F EX (E := "java/lang/IllegalStateException") (text := "too many versions") (num := 13) hv_th_RX6_208_210 m_X6_needRoom_c208 m_X6_needRoom_iniISE m_X6_needRoom_atISE (by decide +kernel) dX6_needRoom_17 rfl dX6_needRoom_20 rfl dX6_needRoom_21 rfl dX6_needRoom_23 rfl dX6_needRoom_26 (by decide) (Nat.le_of_ble_eq_true rfl) (by omega) (by omega) ⟨rfl, rfl, by omega⟩
set_option maxHeartbeats 4000000 in
set_option maxRecDepth 100000 in
theorem c_X6_following (G : gG) (z0 : Nat) (l : Launch) {h : gH} {k : Nat} (hk : k < 1000) : gC G z0 l yX6_following wsX6_following 0 0 [.int (nI k)] h (fun v h' => v = some (.int (nI ((k + 1) % 10))) ∧ h' = h) 0 0 := by
  refine gC_of (cc := cX6_following) (nL := 1) (ret := (some .int)) (by decide) rfl (Nat.le_of_ble_eq_true rfl) ?_
  intro X F E _
  change gF G z0 X cX6_following 1 RX6 wsX6_following (some .int) "following" 0 0 _ _ at F
  show gV G z0 X 0 0 h 0 [(0, .int (nI k))] []
  refine v_iload_n (pc' := 1) F dX6_following_0 rfl (j := 0) rfl rfl ?_
  refine v_iconst (pc' := 2) (v := nI 1) F dX6_following_1 (by decide) rfl ?_
  refine v_iadd (pc' := 3) (v := nI (k + 1)) F dX6_following_2 (nI_add k 1) rfl ?_
  refine v_bipush (pc' := 5) (v := nI 10) F dX6_following_3 (by decide) rfl ?_
  refine v_irem (pc' := 6) (v := nI ((k + 1) % 10)) F dX6_following_5 (nI_ne0 (by omega) (by omega)) (pk_rem (by omega) (by omega) (by omega)) rfl ?_
  exact v_iret F E (by omega) (by omega)  dX6_following_6 ⟨rfl, rfl⟩
theorem fHas.drop1 {f : Nat → Int32} {p : Nat} {a : List Int32} {y : Int32} (h : fHas f p (y :: a)) : fHas f (p + 1) a := h.tl
theorem k_X6_sameRows_6 : gCl wsX6_sameRows 6 RX6 TX6 10 := ⟨by decide +kernel, rfl⟩
theorem m_X6_sameRows_f33 : Cond.fieldLink RX6 33 "SteadyQueues" "row" "[I" ∈ wsX6_sameRows := by decide +kernel
theorem m_X6_sameRows_f37 : Cond.fieldLink RX6 37 "SteadyQueues" "otherRow" "[I" ∈ wsX6_sameRows := by decide +kernel
set_option maxHeartbeats 4000000 in
set_option maxRecDepth 100000 in
theorem lp_X6_sameRows {G : gG} {z0 : Nat} {X : gX} {post : Option Value → gH → Prop} {mc ms cells slots m i : Nat} {h : gH} {x buf rd bks oq rw orw bl cur und : Nat} {off : Int32} {bk : Nat → Nat} {f g : Nat → Int32} {ys zs : List Int32} (F : gF G z0 X cX6_sameRows 4 RX6 wsX6_sameRows (some .boolean) "sameRows" 0 0 mc ms) (E : gE G z0 X post mc ms) (hcc : cells ≤ mc) (hss : slots ≤ ms) (hx : h x = some (.inr (6, [.ref buf, .ref rd, .ref bks, .ref oq, .ref rw, .ref orw, .int (nI bl), .int off, .int (nI cur), .int (nI und)]))) (hw : h rw = some (oI G 64 f)) (hw2 : h orw = some (oI G 64 g)) (hF : fHas f i ys) (hG2 : fHas g i zs) (hm : i + ys.length = m) (hlen : ys.length = zs.length) (hm64 : m ≤ 64) (hp : post (some (.int (if ys = zs then nI 1 else nI 0))) h) : gV G z0 X cells slots h 9 [(3, .int (nI i)), (2, .int (nI m)), (1, .int (nI m)), (0, .ref x)] [] := by
  induction ys generalizing i zs with
  | nil =>
    have hz0 : zs = [] := List.length_eq_zero_iff.mp (by simpa using hlen.symm)
    subst hz0
    simp only [List.length_nil] at hm
    refine v_iload_n (pc' := 10) F dX6_sameRows_9 rfl (j := 0) rfl rfl ?_
    refine v_iload_n (pc' := 11) F dX6_sameRows_10 rfl (j := 2) rfl rfl ?_
    refine w_icmp_ge (tgt := 37) (pc' := 14) F (by omega) (by omega) dX6_sameRows_11 (by decide) rfl (fun _ => ?_) (fun c0 => absurd c0 (by omega))
    refine v_iconst (pc' := 38) (v := nI 1) F dX6_sameRows_37 (by decide) rfl ?_
    exact v_zret F E (by omega) (by omega) (by decide) dX6_sameRows_38 (by simpa using hp)
  | cons y ys ih =>
    cases zs with
    | nil => simp at hlen
    | cons z zs =>
      simp only [List.length_cons] at hm hlen
      have hy := hF.hdE
      have hz := hG2.hdE
      refine v_iload_n (pc' := 10) F dX6_sameRows_9 rfl (j := 0) rfl rfl ?_
      refine v_iload_n (pc' := 11) F dX6_sameRows_10 rfl (j := 2) rfl rfl ?_
      refine w_icmp_ge (tgt := 37) (pc' := 14) F (by omega) (by omega) dX6_sameRows_11 (by decide) rfl (fun c0 => absurd c0 (by omega)) (fun _ => ?_)
      refine v_aload_n (pc' := 15) F dX6_sameRows_14 rfl (j := 3) rfl rfl ?_
      refine v_getf (pc' := 18) (v := .ref rw) F k_X6_sameRows_6 hx 4 (by decide) m_X6_sameRows_f33 rfl dX6_sameRows_15 rfl ?_
      refine v_iload_n (pc' := 19) F dX6_sameRows_18 rfl (j := 0) rfl rfl ?_
      refine w_iald (pc' := 20) (v := y) F hw (by omega) (by omega) hy dX6_sameRows_19 rfl ?_
      refine v_aload_n (pc' := 21) F dX6_sameRows_20 rfl (j := 3) rfl rfl ?_
      refine v_getf (pc' := 24) (v := .ref orw) F k_X6_sameRows_6 hx 5 (by decide) m_X6_sameRows_f37 rfl dX6_sameRows_21 rfl ?_
      refine v_iload_n (pc' := 25) F dX6_sameRows_24 rfl (j := 0) rfl rfl ?_
      refine w_iald (pc' := 26) (v := z) F hw2 (by omega) (by omega) hz dX6_sameRows_25 rfl ?_
      refine v_icmp_eq (tgt := 31) (pc' := 29) F dX6_sameRows_26 (by decide) rfl (fun c0 => ?_) (fun c0 => ?_)
      · refine v_iinc (pc' := 34) (j := 0) (x := nI i) (v := nI (i + 1)) (L' := [(3, .int (nI (i + 1))), (2, .int (nI m)), (1, .int (nI m)), (0, .ref x)]) F dX6_sameRows_31 rfl (nI_add i 1) (by decide) rfl rfl ?_
        refine v_goto (tgt := 9) F dX6_sameRows_34 (by decide) ?_
        refine v_sub (L' := [(3, .int (nI (i + 1))), (2, .int (nI m)), (1, .int (nI m)), (0, .ref x)]) [0, 1, 2, 3] rfl ?_
        exact ih (i := i + 1) hF.tl hG2.tl (by omega) (by omega) (by subst c0; simpa using hp)
      · refine v_iconst (pc' := 30) (v := nI 0) F dX6_sameRows_29 (by decide) rfl ?_
        exact v_zret F E (by omega) (by omega) (by decide) dX6_sameRows_30 (by rw [if_neg (fun e => c0 (List.cons.inj e).1)] at hp; exact hp)
set_option maxHeartbeats 4000000 in
set_option maxRecDepth 100000 in
theorem c_X6_sameRows (G : gG) (z0 : Nat) (l : Launch) {h : gH} {x buf rd bks oq rw orw bl cur und : Nat} {off : Int32} {bk : Nat → Nat} {f g : Nat → Int32} {ys zs : List Int32} (hx : h x = some (.inr (6, [.ref buf, .ref rd, .ref bks, .ref oq, .ref rw, .ref orw, .int (nI bl), .int off, .int (nI cur), .int (nI und)]))) (hw : h rw = some (oI G 64 f)) (hw2 : h orw = some (oI G 64 g)) (hF : fHas f 0 ys) (hG2 : fHas g 0 zs) (hl64 : ys.length ≤ 64) (hl65 : zs.length ≤ 64) : gC G z0 l yX6_sameRows wsX6_sameRows 0 0 [.ref x, .int (nI ys.length), .int (nI zs.length)] h (fun v h' => v = some (.int (if ys = zs then nI 1 else nI 0)) ∧ h' = h) 0 0 := by
  by_cases hlen : ys.length = zs.length
  · have hl2 := hlen
    refine gC_of (cc := cX6_sameRows) (nL := 4) (ret := (some .boolean)) (by decide) rfl (Nat.le_of_ble_eq_true rfl) ?_
    intro X F E _
    change gF G z0 X cX6_sameRows 4 RX6 wsX6_sameRows (some .boolean) "sameRows" 0 0 _ _ at F
    show gV G z0 X 0 0 h 0 [(0, .ref x), (1, .int (nI ys.length)), (2, .int (nI zs.length))] []
    refine v_iload_n (pc' := 1) F dX6_sameRows_0 rfl (j := 1) rfl rfl ?_
    refine v_iload_n (pc' := 2) F dX6_sameRows_1 rfl (j := 2) rfl rfl ?_
    refine w_icmp_eq (tgt := 7) (pc' := 5) F (by omega) (by omega) dX6_sameRows_2 (by decide) rfl (fun _ => ?_) (fun c0 => absurd hlen c0)
    rw [← hlen]
    refine v_iconst (pc' := 8) (v := nI 0) F dX6_sameRows_7 (by decide) rfl ?_
    refine v_istore_n (pc' := 9) (i := 3) (L' := [(3, .int (nI 0)), (0, .ref x), (1, .int (nI ys.length)), (2, .int (nI ys.length))]) F dX6_sameRows_8 rfl (by decide) rfl rfl ?_
    refine v_sub (L' := [(3, .int (nI 0)), (2, .int (nI ys.length)), (1, .int (nI ys.length)), (0, .ref x)]) [0, 3, 2, 1] rfl ?_
    exact lp_X6_sameRows (bk := bk) (i := 0) F E (Nat.le_refl _) (Nat.le_refl _) hx hw hw2 hF hG2 (by omega) hlen hl64 ⟨rfl, rfl⟩
  · have hl2 := hlen
    refine gC_of (cc := cX6_sameRows) (nL := 4) (ret := (some .boolean)) (by decide) rfl (Nat.le_of_ble_eq_true rfl) ?_
    intro X F E _
    change gF G z0 X cX6_sameRows 4 RX6 wsX6_sameRows (some .boolean) "sameRows" 0 0 _ _ at F
    show gV G z0 X 0 0 h 0 [(0, .ref x), (1, .int (nI ys.length)), (2, .int (nI zs.length))] []
    refine v_iload_n (pc' := 1) F dX6_sameRows_0 rfl (j := 1) rfl rfl ?_
    refine v_iload_n (pc' := 2) F dX6_sameRows_1 rfl (j := 2) rfl rfl ?_
    refine w_icmp_eq (tgt := 7) (pc' := 5) F (by omega) (by omega) dX6_sameRows_2 (by decide) rfl (fun c0 => absurd c0 hlen) (fun _ => ?_)
    refine v_iconst (pc' := 6) (v := nI 0) F dX6_sameRows_5 (by decide) rfl ?_
    exact v_zret F E (by omega) (by omega) (by decide) dX6_sameRows_6 ⟨by rw [if_neg (fun e => hlen (by rw [e]))], rfl⟩
theorem k_X6_keepDraft_6 : gCl wsX6_keepDraft 6 RX6 TX6 10 := ⟨by decide +kernel, rfl⟩
theorem m_X6_keepDraft_f47 : Cond.fieldLink RX6 47 "SteadyQueues" "current" "I" ∈ wsX6_keepDraft := by decide +kernel
theorem hd_X6_following : yX6_following.cls ≠ "java/lang/invoke/MethodHandle" ∧ yX6_following.cls ≠ "java/lang/invoke/VarHandle" ∧ (parseMethodDescriptor yX6_following.desc).map (fun d => d.parameters.length) = some 1 := by decide +kernel
theorem m_X6_keepDraft_f50 : Cond.fieldLink RX6 50 "SteadyQueues" "undoable" "I" ∈ wsX6_keepDraft := by decide +kernel
set_option maxHeartbeats 4000000 in
set_option maxRecDepth 100000 in
theorem c_X6_keepDraft (G : gG) (z0 : Nat) (l : Launch) {h : gH} {x buf rd bks oq rw orw bl cur und : Nat} {off : Int32} {bk : Nat → Nat} (hX : isX6 G h x buf rd bks oq rw orw bl off cur und bk) (hc : cur < 10) (hu : und ≤ 8) : gC G z0 l yX6_keepDraft wsX6_keepDraft 1 20 [.ref x] h (fun v h' => v = none ∧ isX6 G h' x buf rd bks oq rw orw bl off ((cur + 1) % 10) (min 8 (und + 1)) bk ∧ gfr [x] h h') 0 0 := by
  obtain ⟨hx, fb, hbks, hfb⟩ := id hX
  refine gC_of (cc := cX6_keepDraft) (nL := 1) (ret := none) (by decide) rfl (Nat.le_of_ble_eq_true rfl) ?_
  intro X F E _
  change gF G z0 X cX6_keepDraft 1 RX6 wsX6_keepDraft none "keepDraft" 1 20 _ _ at F
  show gV G z0 X 0 0 h 0 [(0, .ref x)] []
  refine v_aload_n (pc' := 1) F dX6_keepDraft_0 rfl (j := 0) rfl rfl ?_
  refine v_aload_n (pc' := 2) F dX6_keepDraft_1 rfl (j := 0) rfl rfl ?_
  refine v_getf (pc' := 5) (v := .int (nI cur)) F k_X6_keepDraft_6 hx 8 (by decide) m_X6_keepDraft_f47 rfl dX6_keepDraft_2 rfl ?_
  refine v_callS (pc' := 8) (rt := (some .int)) (mcc := 0) (msc := 0) (As := [.int (nI cur)]) (st := [.ref x]) F (fun l => c_X6_following G z0 l (k := cur) (by omega)) gX6_keepDraft_X6_following rfl hd_X6_following (by decide) (by decide) rfl rfl (Nat.le_of_ble_eq_true rfl) (by omega) (by omega) dX6_keepDraft_5 rfl (fun v1 h hq => ?_)
  obtain ⟨rfl, rfl⟩ := hq
  refine w_putf (pc' := 11) F k_X6_keepDraft_6 tyX6_ok nmX6 hx 8 (by decide) m_X6_keepDraft_f47 rfl  rfl rfl (show 8 < 10 by decide) [.ref buf, .ref rd, .ref bks, .ref oq, .ref rw, .ref orw, .int (nI bl), .int off, .int (nI ((cur + 1) % 10)), .int (nI und)] rfl dX6_keepDraft_8 rfl (fun h2 a3 f4 => ?_)
  refine v_aload_n (pc' := 12) F dX6_keepDraft_11 rfl (j := 0) rfl rfl ?_
  refine v_getf (pc' := 15) (v := .int (nI und)) F k_X6_keepDraft_6 a3 9 (by decide) m_X6_keepDraft_f50 rfl dX6_keepDraft_12 rfl ?_
  refine v_bipush (pc' := 17) (v := nI 8) F dX6_keepDraft_15 (by decide) rfl ?_
  refine w_icmp_ge (tgt := 30) (pc' := 20) F (by omega) (by omega) dX6_keepDraft_17 (by decide) rfl (fun c0 => ?_) (fun c0 => ?_)
  · have fr5 : gfr [x] h h2 := f4
    have g6 := f4 _ _ (gnc ((g_neA hx hbks).symm) gn0) hbks
    exact v_vret F E (by omega) (by omega)  dX6_keepDraft_30 ⟨rfl, ⟨by rw [show min 8 (und + 1) = und by omega]; exact a3, fb, g6, hfb⟩, fr5⟩
  · refine v_aload_n (pc' := 21) F dX6_keepDraft_20 rfl (j := 0) rfl rfl ?_
    refine v_dup (pc' := 22) F dX6_keepDraft_21 rfl rfl ?_
    refine v_getf (pc' := 25) (v := .int (nI und)) F k_X6_keepDraft_6 a3 9 (by decide) m_X6_keepDraft_f50 rfl dX6_keepDraft_22 rfl ?_
    refine v_iconst (pc' := 26) (v := nI 1) F dX6_keepDraft_25 (by decide) rfl ?_
    refine v_iadd (pc' := 27) (v := nI (und + 1)) F dX6_keepDraft_26 (nI_add und 1) rfl ?_
    refine w_putf (pc' := 30) F k_X6_keepDraft_6 tyX6_ok nmX6 a3 9 (by decide) m_X6_keepDraft_f50 rfl  rfl rfl (show 9 < 10 by decide) [.ref buf, .ref rd, .ref bks, .ref oq, .ref rw, .ref orw, .int (nI bl), .int off, .int (nI ((cur + 1) % 10)), .int (nI (und + 1))] rfl dX6_keepDraft_27 rfl (fun h7 a8 f9 => ?_)
    have fr10 : gfr [x] h h7 := (gfr.t f4 f9)
    have g11 := f4 _ _ (gnc ((g_neA hx hbks).symm) gn0) hbks
    have g12 := f9 _ _ (gnc ((g_neA hx hbks).symm) gn0) g11
    exact v_vret F E (by omega) (by omega)  dX6_keepDraft_30 ⟨rfl, ⟨by rw [show min 8 (und + 1) = und + 1 by omega]; exact a8, fb, g12, hfb⟩, fr10⟩
theorem k_X6_freshDraft_6 : gCl wsX6_freshDraft 6 RX6 TX6 10 := ⟨by decide +kernel, rfl⟩
theorem m_X6_freshDraft_f22 : Cond.fieldLink RX6 22 "SteadyQueues" "books" "[LSteadyQueues$Book;" ∈ wsX6_freshDraft := by decide +kernel
theorem m_X6_freshDraft_f47 : Cond.fieldLink RX6 47 "SteadyQueues" "current" "I" ∈ wsX6_freshDraft := by decide +kernel
theorem hv_X0_copyFrom : yX0_copyFrom.cls = RX0 ∧ yX0_copyFrom.cls ≠ "java/lang/invoke/MethodHandle" ∧ yX0_copyFrom.cls ≠ "java/lang/invoke/VarHandle" ∧ (parseMethodDescriptor yX0_copyFrom.desc).map (fun d => d.parameters.length) = some 1 := by decide +kernel
set_option maxHeartbeats 4000000 in
set_option maxRecDepth 100000 in
theorem c_X6_freshDraft (G : gG) (z0 : Nat) (l : Launch) {h : gH} {x buf rd bks oq rw orw bl cur und : Nat} {off : Int32} {bk : Nat → Nat} {va n pc dr : Nat} {ad : Nat → Nat} {va2 n2 pc2 dr2 : Nat} (hX : isX6 G h x buf rd bks oq rw orw bl off cur und bk) (hc : cur < 10) (hu : und ≤ 8) (hn : n ≤ 64) (hB : isBk G h (bk cur) va n pc dr ad) (hbb : bk ((cur + 1) % 10) ≠ bk cur) (hvv : va2 ≠ va) (hB2 : h (bk ((cur + 1) % 10)) = some (.inr (0, [.ref va2, .int (nI n2), .int (nI pc2), .int (nI dr2)])) ∧ ∃ f2, h va2 = some (oV G 64 f2)) (hk : ∀ j, j < n → ∃ fs, h (ad j) = some (.inr (5, fs))) : gC G z0 l yX6_freshDraft wsX6_freshDraft 1 22 [.ref x] h (fun v h' => v = some (va_rf (some (bk ((cur + 1) % 10)))) ∧ isBk G h' (bk ((cur + 1) % 10)) va2 n pc dr ad ∧ gfr [bk ((cur + 1) % 10), va2] h h') 0 0 := by
  obtain ⟨hx, fb, hbks, hfb⟩ := id hX
  obtain ⟨hb, f, hva, hf⟩ := id hB
  obtain ⟨hb2, f2, hva2⟩ := hB2
  refine gC_of (cc := cX6_freshDraft) (nL := 2) (ret := (some (.object "SteadyQueues$Book"))) (by decide) rfl (Nat.le_of_ble_eq_true rfl) ?_
  intro X F E _
  change gF G z0 X cX6_freshDraft 2 RX6 wsX6_freshDraft (some (.object "SteadyQueues$Book")) "freshDraft" 1 22 _ _ at F
  show gV G z0 X 0 0 h 0 [(0, .ref x)] []
  refine v_aload_n (pc' := 1) F dX6_freshDraft_0 rfl (j := 0) rfl rfl ?_
  refine v_getf (pc' := 4) (v := .ref bks) F k_X6_freshDraft_6 hx 2 (by decide) m_X6_freshDraft_f22 rfl dX6_freshDraft_1 rfl ?_
  refine v_aload_n (pc' := 5) F dX6_freshDraft_4 rfl (j := 0) rfl rfl ?_
  refine v_getf (pc' := 8) (v := .int (nI cur)) F k_X6_freshDraft_6 hx 8 (by decide) m_X6_freshDraft_f47 rfl dX6_freshDraft_5 rfl ?_
  refine v_callS (pc' := 11) (rt := (some .int)) (mcc := 0) (msc := 0) (As := [.int (nI cur)]) (st := [.ref bks]) F (fun l => c_X6_following G z0 l (k := cur) (by omega)) gX6_freshDraft_X6_following rfl hd_X6_following (by decide) (by decide) rfl rfl (Nat.le_of_ble_eq_true rfl) (by omega) (by omega) dX6_freshDraft_8 rfl (fun v1 h hq => ?_)
  obtain ⟨rfl, rfl⟩ := hq
  refine w_qald (pc' := 12) (v := some (bk ((cur + 1) % 10))) F hbks (by omega) (by omega) (hfb ((cur + 1) % 10) (by omega)) dX6_freshDraft_11 rfl ?_
  refine v_astore_n (pc' := 13) (i := 1) (L' := [(1, .ref (bk ((cur + 1) % 10))), (0, .ref x)]) F dX6_freshDraft_12 rfl (by decide) rfl rfl ?_
  refine v_aload_n (pc' := 14) F dX6_freshDraft_13 rfl (j := 0) rfl rfl ?_
  refine v_aload_n (pc' := 15) F dX6_freshDraft_14 rfl (j := 1) rfl rfl ?_
  refine v_getf (pc' := 18) (v := .ref bks) F k_X6_freshDraft_6 hx 2 (by decide) m_X6_freshDraft_f22 rfl dX6_freshDraft_15 rfl ?_
  refine v_aload_n (pc' := 19) F dX6_freshDraft_18 rfl (j := 1) rfl rfl ?_
  refine v_getf (pc' := 22) (v := .int (nI cur)) F k_X6_freshDraft_6 hx 8 (by decide) m_X6_freshDraft_f47 rfl dX6_freshDraft_19 rfl ?_
  refine w_qald (pc' := 23) (v := some (bk cur)) F hbks (by omega) (by omega) (hfb cur (by omega)) dX6_freshDraft_22 rfl ?_
  refine v_callV (pc' := 26) (rt := none) (mcc := 0) (msc := 0) (As := [.ref (bk cur)]) (st := []) F (fun l => c_X0_copyFrom G z0 l hn hbb hvv hb2 hva2 hB hk) gX6_freshDraft_X0_copyFrom rfl hv_X0_copyFrom (by decide) (by decide) hb2 rfl rfl rfl (Nat.le_of_ble_eq_true rfl) (by omega) (by omega) dX6_freshDraft_23 rfl (fun v3 h2 hq => ?_)
  obtain ⟨rfl, hB9, hf9⟩ := hq
  refine v_aload_n (pc' := 27) F dX6_freshDraft_26 rfl (j := 0) rfl rfl ?_
  exact v_aret (r := some (bk ((cur + 1) % 10))) F E (by omega) (by omega) dX6_freshDraft_27 ⟨rfl, hB9, hf9⟩
