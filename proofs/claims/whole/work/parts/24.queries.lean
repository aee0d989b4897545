/-! STEADYQUEUES: THE QUERIES -/
theorem g_neQI {h : gH} {a b : Nat} {x y : ClassId} {n m : Nat} {f : Nat → Option Nat} {g : Nat → Int32} (ha : h a = some (.inl (x, n, .inr (.inr (.inr (.inr f)))))) (hb : h b = some (.inl (y, m, .inl g))) : a ≠ b := fun q => by
  subst q
  rw [ha] at hb
  cases hb
/-- the rows and the other queue: whatever they hold -/
def scr (G : gG) (h : gH) (rw orw oq : Nat) : Prop := (∃ f, h rw = some (oI G 64 f)) ∧ (∃ f, h orw = some (oI G 64 f)) ∧ ∃ a b c d : Int32, h oq = some (.inr (2, [.int a, .int b, .int c, .int d]))
def qPost (G : gG) (h : gH) (rw orw oq : Nat) (r : Value) : Option Value → gH → Prop := fun v h' => v = some r ∧ scr G h' rw orw oq ∧ gfr [rw, orw, oq] h h'
def xPost (G : gG) (h : gH) (rw orw oq : Nat) (P : String → Prop) : String → gH → Prop := fun E h' => P E ∧ scr G h' rw orw oq ∧ gfr [rw, orw, oq] h h'
/-- the versions of a book: each with its way, and the addresses of those that it was made from -/
def isDat (h : gH) (n : Nat) (ad : Nat → Nat) (as : Nat → List Nat) (os : Nat → List mO) : Prop := ∀ i, i < n → isVc h (os i) (ad i :: as i) ∧ wOk (os i) ∧ (os i).length < 64
theorem isDat.x {h : gH} {n : Nat} {ad : Nat → Nat} {as : Nat → List Nat} {os : Nat → List mO} (d : isDat h n ad as os) : ∀ i, i < n → isVx h (ad i) ((fun i => (as i).head?) i) (os i) := fun i hi => (d i hi).1.x
theorem isDat.o {h : gH} {n : Nat} {ad : Nat → Nat} {as : Nat → List Nat} {os : Nat → List mO} (d : isDat h n ad as os) : ∀ i, i < n → wOk (os i) ∧ (os i).length < 64 := fun i hi => (d i hi).2
theorem isDat.pv {h h' : gH} {n : Nat} {ad : Nat → Nat} {as : Nat → List Nat} {os : Nat → List mO} (f : gpv h h') (d : isDat h n ad as os) : isDat h' n ad as os := fun i hi => ⟨(d i hi).1.pv f, (d i hi).2⟩
/-- the place of a value -/
def fnd (x : Int32) : List Int32 → Nat → Int32
  | [], _ => -1
  | y :: ys, k => if y = x then nI k else fnd x ys (k + 1)
theorem vAt_in : ∀ {xs : List Int32} {j k : Nat}, j < xs.length → k + xs.length < 2147483648 → vAt (nI (k + j)) xs k = xs.getD j 0
  | x :: xs, 0, k, _, _ => by unfold vAt; rw [Nat.add_zero, if_pos rfl]; rfl
  | x :: xs, j + 1, k, h, h2 => by
    unfold vAt
    simp only [List.length_cons] at h h2
    rw [if_neg (fun e => by have := (nI_eq (by omega) (by omega)).mp e; omega), show k + (j + 1) = (k + 1) + j by omega, vAt_in (by omega) (by omega)]
    rfl
theorem vAt_out {pl : Int32} : ∀ {xs : List Int32} {k : Nat}, (∀ j, k ≤ j → j < k + xs.length → pl ≠ nI j) → vAt pl xs k = -1
  | [], _, _ => rfl
  | x :: xs, k, h => by
    unfold vAt
    rw [if_neg (fun e => h k (Nat.le_refl _) (by simp) e.symm)]
    exact vAt_out (fun j h1 h2 => h j (by omega) (by simp only [List.length_cons]; omega))
theorem k_X6_errorOffset_6 : gCl wsX6_errorOffset 6 RX6 TX6 10 := ⟨by decide +kernel, rfl⟩
theorem m_X6_errorOffset_f44 : Cond.fieldLink RX6 44 "SteadyQueues" "offsetOfError" "I" ∈ wsX6_errorOffset := by decide +kernel
set_option maxHeartbeats 4000000 in
set_option maxRecDepth 100000 in
theorem c_X6_errorOffset (G : gG) (z0 : Nat) (l : Launch) {h : gH} {x buf rd bks oq rw orw bl cur und : Nat} {off : Int32} {bk : Nat → Nat} (hX : isX6 G h x buf rd bks oq rw orw bl off cur und bk) (hc : cur < 10) (hu : und ≤ 8) : gC G z0 l yX6_errorOffset wsX6_errorOffset 0 0 [.ref x] h (fun v h' => v = some (.int off) ∧ h' = h) 0 0 := by
  obtain ⟨hx, fb, hbks, hfb⟩ := id hX
  refine gC_of (cc := cX6_errorOffset) (nL := 1) (ret := (some .int)) (by decide) rfl (Nat.le_of_ble_eq_true rfl) ?_
  intro X F E _
  change gF G z0 X cX6_errorOffset 1 RX6 wsX6_errorOffset (some .int) "errorOffset" 0 0 _ _ at F
  show gV G z0 X 0 0 h 0 [(0, .ref x)] []
  refine v_aload_n (pc' := 1) F dX6_errorOffset_0 rfl (j := 0) rfl rfl ?_
  refine v_getf (pc' := 4) (v := .int off) F k_X6_errorOffset_6 hx 7 (by decide) m_X6_errorOffset_f44 rfl dX6_errorOffset_1 rfl ?_
  exact v_iret F E (by omega) (by omega)  dX6_errorOffset_4 ⟨rfl, rfl⟩
theorem hv_X6_needVersion : yX6_needVersion.cls = RX6 ∧ yX6_needVersion.cls ≠ "java/lang/invoke/MethodHandle" ∧ yX6_needVersion.cls ≠ "java/lang/invoke/VarHandle" ∧ (parseMethodDescriptor yX6_needVersion.desc).map (fun d => d.parameters.length) = some 1 := by decide +kernel
theorem k_X6_first_6 : gCl wsX6_first 6 RX6 TX6 10 := ⟨by decide +kernel, rfl⟩
theorem m_X6_first_f33 : Cond.fieldLink RX6 33 "SteadyQueues" "row" "[I" ∈ wsX6_first := by decide +kernel
theorem hv_X5_valuesInto : yX5_valuesInto.cls = RX5 ∧ yX5_valuesInto.cls ≠ "java/lang/invoke/MethodHandle" ∧ yX5_valuesInto.cls ≠ "java/lang/invoke/VarHandle" ∧ (parseMethodDescriptor yX5_valuesInto.desc).map (fun d => d.parameters.length) = some 1 := by decide +kernel
theorem hv_th_RX6_119_123 : gThN RX6 119 123 "java/util/NoSuchElementException" := ⟨by decide +kernel, by decide +kernel, by decide +kernel, by decide +kernel, by decide +kernel⟩
theorem m_X6_first_c119 : Cond.classLink RX6 119 "java/util/NoSuchElementException" ∈ wsX6_first := by decide +kernel
theorem m_X6_first_iniNSEE : Cond.initialized "java/util/NoSuchElementException" ∈ wsX6_first := by decide +kernel
theorem m_X6_first_atNSEE : ∀ w ∈ (vx_atN RX6 123 "java/util/NoSuchElementException" gNames).filter goodWord, w ∈ wsX6_first := by decide +kernel
set_option maxHeartbeats 4000000 in
set_option maxRecDepth 100000 in
theorem c_X6_first (G : gG) (z0 : Nat) (l : Launch) (hst : l.stackTraces = false) {h : gH} {x buf rd bks oq rw orw bl cur und : Nat} {off : Int32} {bk : Nat → Nat} {va n pc dr : Nat} {ad : Nat → Nat} {as : Nat → List Nat} {os : Nat → List mO} (ix : Int32) (hX : isX6 G h x buf rd bks oq rw orw bl off cur und bk) (hc : cur < 10) (hu : und ≤ 8) (hn : n ≤ 64) (hB : isBk G h (bk cur) va n pc dr ad) (hD : isDat h n ad as os) (hro : rw ≠ orw) (hsc : scr G h rw orw oq) : gCX G z0 l yX6_first wsX6_first 7 112 [.ref x, .int ix] h (fun v h' => ∃ j, j < n ∧ ix = nI j ∧ wVals (os j) ≠ [] ∧ qPost G h rw orw oq (.int ((wVals (os j)).getD 0 0)) v h') (xPost G h rw orw oq (fun E => (E = "java/lang/IndexOutOfBoundsException" ∧ ¬ iR ix n) ∨ (E = "java/util/NoSuchElementException" ∧ ∃ j, j < n ∧ ix = nI j ∧ wVals (os j) = []))) 2 12 := by
  obtain ⟨hx, fb, hbks, hfb⟩ := id hX
  obtain ⟨hb, f, hva, hf⟩ := id hB
  obtain ⟨⟨f0, hrw⟩, ⟨g0, horw⟩, oa, ob, oc, od, hoq⟩ := id hsc
  refine gCX_of hst (cc := cX6_first) (nL := 3) (ret := (some .int)) (by decide) rfl (Nat.le_of_ble_eq_true rfl) ?_
  intro X F E EX _
  change gF G z0 X cX6_first 3 RX6 wsX6_first (some .int) "first" 7 112 _ _ at F
  show gV G z0 X 0 0 h 0 [(0, .ref x), (1, .int ix)] []
  refine v_aload_n (pc' := 1) F dX6_first_0 rfl (j := 0) rfl rfl ?_
  refine v_iload_n (pc' := 2) F dX6_first_1 rfl (j := 1) rfl rfl ?_
  refine v_callVX (pc' := 5) (rt := (some (.object "SteadyQueues$Version"))) (mcc := 1) (msc := 6) (As := [.int ix]) (st := []) F EX (fun l hst => c_X6_needVersion G z0 l hst ix hX hc hu hn hB) (fun E h' q => ⟨Or.inl ⟨q.2.1, q.2.2⟩, by rw [q.1]; exact hsc, by rw [q.1]; exact gfr.rf⟩) gX6_first_X6_needVersion rfl hv_X6_needVersion (by decide) (by decide) hx rfl rfl rfl (Nat.le_of_ble_eq_true rfl) (by omega) (by omega) dX6_first_2 rfl (fun v1 h hq => ?_)
  obtain ⟨j, hj, rfl, rfl, rfl⟩ := hq
  obtain ⟨tj, aj, bj, hvj, hfaj, hfbj, hTj, x3j, x4j, x5j, x6j, htj⟩ := (hD.x j hj).obj
  refine v_astore_n (pc' := 6) (i := 2) (L' := [(2, .ref (ad j)), (0, .ref x), (1, .int (nI j))]) F dX6_first_5 rfl (by decide) rfl rfl ?_
  refine v_aload_n (pc' := 7) F dX6_first_6 rfl (j := 0) rfl rfl ?_
  refine v_aload_n (pc' := 8) F dX6_first_7 rfl (j := 1) rfl rfl ?_
  refine v_getf (pc' := 11) (v := .ref rw) F k_X6_first_6 hx 4 (by decide) m_X6_first_f33 rfl dX6_first_8 rfl ?_
  have hO1 := (hD j hj).2
  have hQ1 := (qOf_J hO1.1).vals
  refine v_callV (pc' := 14) (rt := (some .int)) (mcc := 0) (msc := 0) (As := [.ref rw]) (st := []) F (fun l => c_X5_valuesInto G z0 l (by omega) (b := (os j).length) (by omega) (qOf_J hO1.1) (hD.x j hj).choose_spec hrw) gX6_first_X5_valuesInto rfl hv_X5_valuesInto (by decide) (by decide) hvj rfl rfl rfl (Nat.le_of_ble_eq_true rfl) (by omega) (by omega) dX6_first_11 rfl (fun v3 h2 hq => ?_)
  obtain ⟨rfl, f1, w1, g1, k1⟩ := hq
  rw [hQ1] at g1 ⊢
  have hlv1 := wVals_le (os j)
  have pv1 := gfr.pv k1 (by intro a9 m9 ci9 fs9 c9 z9; rw [List.mem_singleton.mp m9, hrw] at z9; cases z9)
  refine w_if_ne (tgt := 27) (pc' := 17) F (by omega) dX6_first_14 (by decide) rfl (fun c0 => ?_) (fun c0 => ?_)
  · refine v_aload_n (pc' := 28) F dX6_first_27 rfl (j := 1) rfl rfl ?_
    have g4 := k1 _ _ (gnc (g_neA hx hrw) gn0) hx
    refine v_getf (pc' := 31) (v := .ref rw) F k_X6_first_6 g4 4 (by decide) m_X6_first_f33 rfl dX6_first_28 rfl ?_
    refine v_iconst (pc' := 32) (v := nI 0) F dX6_first_31 (by decide) rfl ?_
    refine w_iald (pc' := 33) (v := (wVals (os j)).getD 0 0) F w1 (by omega) (by omega) (by have := g1 0 (by omega); rwa [Nat.zero_add] at this) dX6_first_32 rfl ?_
    have fr5 : gfr [rw, orw, oq] h h2 := (gfr.mono k1 (by intro q9 z9 m9; apply z9; simp only [List.mem_cons, List.not_mem_nil, or_false] at m9 ⊢; omega))
    have g6 := k1 _ _ (gnc hro.symm gn0) horw
    have g7 := k1 _ _ (gnc (g_neA hoq hrw) gn0) hoq
    exact v_iret F E (by omega) (by omega)  dX6_first_33 ⟨j, hj, rfl, fun z => by rw [z] at c0; exact c0 rfl, rfl, ⟨⟨_, w1⟩, ⟨_, g6⟩, _, _, _, _, g7⟩, fr5⟩
  · have fr8 : gfr [rw, orw, oq] h h2 := (gfr.mono k1 (by intro q9 z9 m9; apply z9; simp only [List.mem_cons, List.not_mem_nil, or_false] at m9 ⊢; omega))
    have g9 := k1 _ _ (gnc hro.symm gn0) horw
    have g10 := k1 _ _ (gnc (g_neA hoq hrw) gn0) hoq
    exact v_throwN F EX (E := "java/util/NoSuchElementException") (text := "no value") (num := 7) hv_th_RX6_119_123 m_X6_first_c119 m_X6_first_iniNSEE m_X6_first_atNSEE (by decide +kernel) dX6_first_17 rfl dX6_first_20 rfl dX6_first_21 rfl dX6_first_23 rfl dX6_first_26 (by decide) (Nat.le_of_ble_eq_true rfl) (by omega) (by omega) ⟨Or.inr ⟨rfl, j, hj, rfl, List.length_eq_zero_iff.mp c0⟩, ⟨⟨_, w1⟩, ⟨_, g9⟩, _, _, _, _, g10⟩, fr8⟩
theorem k_X6_find_6 : gCl wsX6_find 6 RX6 TX6 10 := ⟨by decide +kernel, rfl⟩
theorem m_X6_find_f33 : Cond.fieldLink RX6 33 "SteadyQueues" "row" "[I" ∈ wsX6_find := by decide +kernel
set_option maxHeartbeats 4000000 in
set_option maxRecDepth 100000 in
theorem lp_X6_find {G : gG} {z0 : Nat} {X : gX} {post : Option Value → gH → Prop} {mc ms cells slots m i j : Nat} {h : gH} {x buf rd bks oq rw orw bl cur und : Nat} {off y : Int32} {f : Nat → Int32} {ys : List Int32} (F : gF G z0 X cX6_find 5 RX6 wsX6_find (some .int) "find" 7 112 mc ms) (E : gE G z0 X post mc ms) (hcc : cells ≤ mc) (hss : slots ≤ ms) (hx : h x = some (.inr (6, [.ref buf, .ref rd, .ref bks, .ref oq, .ref rw, .ref orw, .int (nI bl), .int off, .int (nI cur), .int (nI und)]))) (hw : h rw = some (oI G 64 f)) (hF : fHas f i ys) (hm : i + ys.length = m) (hm64 : m ≤ 64) (hp : post (some (.int (fnd y ys i))) h) : gV G z0 X cells slots h 16 [(4, .int (nI i)), (3, .int (nI m)), (2, .int y), (1, .int (nI j)), (0, .ref x)] [] := by
  induction ys generalizing i with
  | nil =>
    simp only [List.length_nil] at hm
    refine v_iload (pc' := 18) F dX6_find_16  (j := 0) rfl rfl ?_
    refine v_iload_n (pc' := 19) F dX6_find_18 rfl (j := 1) rfl rfl ?_
    refine w_icmp_ge (tgt := 42) (pc' := 22) F (by omega) (by omega) dX6_find_19 (by decide) rfl (fun _ => ?_) (fun c0 => absurd c0 (by omega))
    refine v_iconst (pc' := 43) (v := (-1)) F dX6_find_42 (by decide) rfl ?_
    exact v_iret F E (by omega) (by omega)  dX6_find_43 hp
  | cons z ys ih =>
    simp only [List.length_cons] at hm
    have hz := hF.hdE
    refine v_iload (pc' := 18) F dX6_find_16  (j := 0) rfl rfl ?_
    refine v_iload_n (pc' := 19) F dX6_find_18 rfl (j := 1) rfl rfl ?_
    refine w_icmp_ge (tgt := 42) (pc' := 22) F (by omega) (by omega) dX6_find_19 (by decide) rfl (fun c0 => absurd c0 (by omega)) (fun _ => ?_)
    refine v_aload_n (pc' := 23) F dX6_find_22 rfl (j := 4) rfl rfl ?_
    refine v_getf (pc' := 26) (v := .ref rw) F k_X6_find_6 hx 4 (by decide) m_X6_find_f33 rfl dX6_find_23 rfl ?_
    refine v_iload (pc' := 28) F dX6_find_26  (j := 0) rfl rfl ?_
    refine w_iald (pc' := 29) (v := z) F hw (by omega) (by omega) hz dX6_find_28 rfl ?_
    refine v_iload_n (pc' := 30) F dX6_find_29 rfl (j := 2) rfl rfl ?_
    refine v_icmp_ne (tgt := 36) (pc' := 33) F dX6_find_30 (by decide) rfl (fun c0 => ?_) (fun c0 => ?_)
    · refine v_iinc (pc' := 39) (j := 0) (x := nI i) (v := nI (i + 1)) (L' := [(4, .int (nI (i + 1))), (3, .int (nI m)), (2, .int y), (1, .int (nI j)), (0, .ref x)]) F dX6_find_36 rfl (nI_add i 1) (by decide) rfl rfl ?_
      refine v_goto (tgt := 16) F dX6_find_39 (by decide) ?_
      refine v_sub (L' := [(4, .int (nI (i + 1))), (3, .int (nI m)), (2, .int y), (1, .int (nI j)), (0, .ref x)]) [0, 1, 2, 3, 4] rfl ?_
      exact ih (i := i + 1) hF.tl (by omega) (by unfold fnd at hp; rw [if_neg c0] at hp; exact hp)
    · refine v_iload (pc' := 35) F dX6_find_33  (j := 0) rfl rfl ?_
      exact v_iret F E (by omega) (by omega)  dX6_find_35 (by unfold fnd at hp; rw [if_pos c0] at hp; exact hp)
set_option maxHeartbeats 4000000 in
set_option maxRecDepth 100000 in
theorem c_X6_find (G : gG) (z0 : Nat) (l : Launch) (hst : l.stackTraces = false) {h : gH} {x buf rd bks oq rw orw bl cur und : Nat} {off : Int32} {bk : Nat → Nat} {va n pc dr : Nat} {ad : Nat → Nat} {as : Nat → List Nat} {os : Nat → List mO} (ix y : Int32) (hX : isX6 G h x buf rd bks oq rw orw bl off cur und bk) (hc : cur < 10) (hu : und ≤ 8) (hn : n ≤ 64) (hB : isBk G h (bk cur) va n pc dr ad) (hD : isDat h n ad as os) (hro : rw ≠ orw) (hsc : scr G h rw orw oq) : gCX G z0 l yX6_find wsX6_find 7 112 [.ref x, .int ix, .int y] h (fun v h' => ∃ j, j < n ∧ ix = nI j ∧ qPost G h rw orw oq (.int (fnd y (wVals (os j)) 0)) v h') (xPost G h rw orw oq (fun E => E = "java/lang/IndexOutOfBoundsException" ∧ ¬ iR ix n)) 1 6 := by
  obtain ⟨hx, fb, hbks, hfb⟩ := id hX
  obtain ⟨hb, f, hva, hf⟩ := id hB
  obtain ⟨⟨f0, hrw⟩, ⟨g0, horw⟩, oa, ob, oc, od, hoq⟩ := id hsc
  refine gCX_of hst (cc := cX6_find) (nL := 5) (ret := (some .int)) (by decide) rfl (Nat.le_of_ble_eq_true rfl) ?_
  intro X F E EX _
  change gF G z0 X cX6_find 5 RX6 wsX6_find (some .int) "find" 7 112 _ _ at F
  show gV G z0 X 0 0 h 0 [(0, .ref x), (1, .int ix), (2, .int y)] []
  refine v_aload_n (pc' := 1) F dX6_find_0 rfl (j := 0) rfl rfl ?_
  refine v_iload_n (pc' := 2) F dX6_find_1 rfl (j := 1) rfl rfl ?_
  refine v_callVX (pc' := 5) (rt := (some (.object "SteadyQueues$Version"))) (mcc := 1) (msc := 6) (As := [.int ix]) (st := []) F EX (fun l hst => c_X6_needVersion G z0 l hst ix hX hc hu hn hB) (fun E h' q => ⟨⟨q.2.1, q.2.2⟩, by rw [q.1]; exact hsc, by rw [q.1]; exact gfr.rf⟩) gX6_find_X6_needVersion rfl hv_X6_needVersion (by decide) (by decide) hx rfl rfl rfl (Nat.le_of_ble_eq_true rfl) (by omega) (by omega) dX6_find_2 rfl (fun v1 h hq => ?_)
  obtain ⟨j, hj, rfl, rfl, rfl⟩ := hq
  obtain ⟨tj, aj, bj, hvj, hfaj, hfbj, hTj, x3j, x4j, x5j, x6j, htj⟩ := (hD.x j hj).obj
  refine v_aload_n (pc' := 6) F dX6_find_5 rfl (j := 0) rfl rfl ?_
  refine v_getf (pc' := 9) (v := .ref rw) F k_X6_find_6 hx 4 (by decide) m_X6_find_f33 rfl dX6_find_6 rfl ?_
  have hO1 := (hD j hj).2
  have hQ1 := (qOf_J hO1.1).vals
  refine v_callV (pc' := 12) (rt := (some .int)) (mcc := 0) (msc := 0) (As := [.ref rw]) (st := []) F (fun l => c_X5_valuesInto G z0 l (by omega) (b := (os j).length) (by omega) (qOf_J hO1.1) (hD.x j hj).choose_spec hrw) gX6_find_X5_valuesInto rfl hv_X5_valuesInto (by decide) (by decide) hvj rfl rfl rfl (Nat.le_of_ble_eq_true rfl) (by omega) (by omega) dX6_find_9 rfl (fun v3 h2 hq => ?_)
  obtain ⟨rfl, f1, w1, g1, k1⟩ := hq
  rw [hQ1] at g1 ⊢
  have hlv1 := wVals_le (os j)
  have pv1 := gfr.pv k1 (by intro a9 m9 ci9 fs9 c9 z9; rw [List.mem_singleton.mp m9, hrw] at z9; cases z9)
  refine v_istore_n (pc' := 13) (i := 3) (L' := [(3, .int (nI ((wVals (os j)).length))), (0, .ref x), (1, .int (nI j)), (2, .int y)]) F dX6_find_12 rfl (by decide) rfl rfl ?_
  refine v_iconst (pc' := 14) (v := nI 0) F dX6_find_13 (by decide) rfl ?_
  refine v_istore (pc' := 16) (i := 4) (L' := [(4, .int (nI 0)), (3, .int (nI ((wVals (os j)).length))), (0, .ref x), (1, .int (nI j)), (2, .int y)]) F dX6_find_14  (by decide) rfl rfl ?_
  refine v_sub (L' := [(4, .int (nI 0)), (3, .int (nI ((wVals (os j)).length))), (2, .int y), (1, .int (nI j)), (0, .ref x)]) [0, 1, 4, 3, 2] rfl ?_
  have fr4 : gfr [rw, orw, oq] h h2 := (gfr.mono k1 (by intro q9 z9 m9; apply z9; simp only [List.mem_cons, List.not_mem_nil, or_false] at m9 ⊢; omega))
  have g5 := k1 _ _ (gnc hro.symm gn0) horw
  have g6 := k1 _ _ (gnc (g_neA hoq hrw) gn0) hoq
  have g7 := k1 _ _ (gnc (g_neA hx hrw) gn0) hx
  exact lp_X6_find (i := 0) F E (by omega) (by omega) g7 w1 g1 (by omega) (by omega) ⟨j, hj, rfl, rfl, ⟨⟨_, w1⟩, ⟨_, g5⟩, _, _, _, _, g6⟩, fr4⟩
theorem k_X6_alike_6 : gCl wsX6_alike 6 RX6 TX6 10 := ⟨by decide +kernel, rfl⟩
theorem m_X6_alike_f33 : Cond.fieldLink RX6 33 "SteadyQueues" "row" "[I" ∈ wsX6_alike := by decide +kernel
theorem m_X6_alike_f37 : Cond.fieldLink RX6 37 "SteadyQueues" "otherRow" "[I" ∈ wsX6_alike := by decide +kernel
theorem hv_X6_sameRows : yX6_sameRows.cls = RX6 ∧ yX6_sameRows.cls ≠ "java/lang/invoke/MethodHandle" ∧ yX6_sameRows.cls ≠ "java/lang/invoke/VarHandle" ∧ (parseMethodDescriptor yX6_sameRows.desc).map (fun d => d.parameters.length) = some 2 := by decide +kernel
set_option maxHeartbeats 4000000 in
set_option maxRecDepth 100000 in
theorem c_X6_alike (G : gG) (z0 : Nat) (l : Launch) (hst : l.stackTraces = false) {h : gH} {x buf rd bks oq rw orw bl cur und : Nat} {off : Int32} {bk : Nat → Nat} {va n pc dr : Nat} {ad : Nat → Nat} {as : Nat → List Nat} {os : Nat → List mO} (ix iy : Int32) (hX : isX6 G h x buf rd bks oq rw orw bl off cur und bk) (hc : cur < 10) (hu : und ≤ 8) (hn : n ≤ 64) (hB : isBk G h (bk cur) va n pc dr ad) (hD : isDat h n ad as os) (hro : rw ≠ orw) (hsc : scr G h rw orw oq) : gCX G z0 l yX6_alike wsX6_alike 7 112 [.ref x, .int ix, .int iy] h (fun v h' => ∃ j m, j < n ∧ m < n ∧ ix = nI j ∧ iy = nI m ∧ qPost G h rw orw oq (.int (if wVals (os j) = wVals (os m) then nI 1 else nI 0)) v h') (xPost G h rw orw oq (fun E => E = "java/lang/IndexOutOfBoundsException" ∧ ¬ (iR ix n ∧ iR iy n))) 2 12 := by
  obtain ⟨hx, fb, hbks, hfb⟩ := id hX
  obtain ⟨hb, f, hva, hf⟩ := id hB
  obtain ⟨⟨f0, hrw⟩, ⟨g0, horw⟩, oa, ob, oc, od, hoq⟩ := id hsc
  refine gCX_of hst (cc := cX6_alike) (nL := 5) (ret := (some .boolean)) (by decide) rfl (Nat.le_of_ble_eq_true rfl) ?_
  intro X F E EX _
  change gF G z0 X cX6_alike 5 RX6 wsX6_alike (some .boolean) "alike" 7 112 _ _ at F
  show gV G z0 X 0 0 h 0 [(0, .ref x), (1, .int ix), (2, .int iy)] []
  refine v_aload_n (pc' := 1) F dX6_alike_0 rfl (j := 0) rfl rfl ?_
  refine v_iload_n (pc' := 2) F dX6_alike_1 rfl (j := 1) rfl rfl ?_
  refine v_callVX (pc' := 5) (rt := (some (.object "SteadyQueues$Version"))) (mcc := 1) (msc := 6) (As := [.int ix]) (st := []) F EX (fun l hst => c_X6_needVersion G z0 l hst ix hX hc hu hn hB) (fun E h' q => ⟨⟨q.2.1, fun z => q.2.2 z.1⟩, by rw [q.1]; exact hsc, by rw [q.1]; exact gfr.rf⟩) gX6_alike_X6_needVersion rfl hv_X6_needVersion (by decide) (by decide) hx rfl rfl rfl (Nat.le_of_ble_eq_true rfl) (by omega) (by omega) dX6_alike_2 rfl (fun v1 h hq => ?_)
  obtain ⟨j, hj, rfl, rfl, rfl⟩ := hq
  obtain ⟨tj, aj, bj, hvj, hfaj, hfbj, hTj, x3j, x4j, x5j, x6j, htj⟩ := (hD.x j hj).obj
  refine v_astore_n (pc' := 6) (i := 3) (L' := [(3, .ref (ad j)), (0, .ref x), (1, .int (nI j)), (2, .int iy)]) F dX6_alike_5 rfl (by decide) rfl rfl ?_
  refine v_aload_n (pc' := 7) F dX6_alike_6 rfl (j := 1) rfl rfl ?_
  refine v_iload_n (pc' := 8) F dX6_alike_7 rfl (j := 3) rfl rfl ?_
  refine v_callVX (pc' := 11) (rt := (some (.object "SteadyQueues$Version"))) (mcc := 1) (msc := 6) (As := [.int iy]) (st := []) F EX (fun l hst => c_X6_needVersion G z0 l hst iy hX hc hu hn hB) (fun E h' q => ⟨⟨q.2.1, fun z => q.2.2 z.2⟩, by rw [q.1]; exact hsc, by rw [q.1]; exact gfr.rf⟩) gX6_alike_X6_needVersion rfl hv_X6_needVersion (by decide) (by decide) hx rfl rfl rfl (Nat.le_of_ble_eq_true rfl) (by omega) (by omega) dX6_alike_8 rfl (fun v2 h hq => ?_)
  obtain ⟨m, hm, rfl, rfl, rfl⟩ := hq
  obtain ⟨tm, am, bm, hvm, hfam, hfbm, hTm, x3m, x4m, x5m, x6m, htm⟩ := (hD.x m hm).obj
  refine v_astore (pc' := 13) (i := 4) (L' := [(4, .ref (ad m)), (3, .ref (ad j)), (0, .ref x), (1, .int (nI j)), (2, .int (nI m))]) F dX6_alike_11  (by decide) rfl rfl ?_
  refine v_aload_n (pc' := 14) F dX6_alike_13 rfl (j := 2) rfl rfl ?_
  refine v_aload_n (pc' := 15) F dX6_alike_14 rfl (j := 1) rfl rfl ?_
  refine v_aload_n (pc' := 16) F dX6_alike_15 rfl (j := 2) rfl rfl ?_
  refine v_getf (pc' := 19) (v := .ref rw) F k_X6_alike_6 hx 4 (by decide) m_X6_alike_f33 rfl dX6_alike_16 rfl ?_
  have hO1 := (hD j hj).2
  have hQ1 := (qOf_J hO1.1).vals
  refine v_callV (pc' := 22) (rt := (some .int)) (mcc := 0) (msc := 0) (As := [.ref rw]) (st := [.ref x]) F (fun l => c_X5_valuesInto G z0 l (by omega) (b := (os j).length) (by omega) (qOf_J hO1.1) (hD.x j hj).choose_spec hrw) gX6_alike_X5_valuesInto rfl hv_X5_valuesInto (by decide) (by decide) hvj rfl rfl rfl (Nat.le_of_ble_eq_true rfl) (by omega) (by omega) dX6_alike_19 rfl (fun v4 h3 hq => ?_)
  obtain ⟨rfl, f1, w1, g1, k1⟩ := hq
  rw [hQ1] at g1 ⊢
  have hlv1 := wVals_le (os j)
  have pv1 := gfr.pv k1 (by intro a9 m9 ci9 fs9 c9 z9; rw [List.mem_singleton.mp m9, hrw] at z9; cases z9)
  refine v_aload (pc' := 24) F dX6_alike_22  (j := 0) rfl rfl ?_
  refine v_aload_n (pc' := 25) F dX6_alike_24 rfl (j := 2) rfl rfl ?_
  have g5 := k1 _ _ (gnc (g_neA hx hrw) gn0) hx
  refine v_getf (pc' := 28) (v := .ref orw) F k_X6_alike_6 g5 5 (by decide) m_X6_alike_f37 rfl dX6_alike_25 rfl ?_
  have g6 := k1 _ _ (gnc hro.symm gn0) horw
  have hO2 := (hD m hm).2
  have hQ2 := (qOf_J hO2.1).vals
  have g9 := k1 _ _ (gnc (g_neA hvm hrw) gn0) hvm
  refine v_callV (pc' := 31) (rt := (some .int)) (mcc := 0) (msc := 0) (As := [.ref orw]) (st := [.int (nI ((wVals (os j)).length)), .ref x]) F (fun l => c_X5_valuesInto G z0 l (by omega) (b := (os m).length) (by omega) (qOf_J hO2.1) ((hD.x m hm).pv pv1).choose_spec g6) gX6_alike_X5_valuesInto rfl hv_X5_valuesInto (by decide) (by decide) g9 rfl rfl rfl (Nat.le_of_ble_eq_true rfl) (by omega) (by omega) dX6_alike_28 rfl (fun v8 h7 hq => ?_)
  obtain ⟨rfl, f2, w2, g2, k2⟩ := hq
  rw [hQ2] at g2 ⊢
  have hlv2 := wVals_le (os m)
  have pv2 := gfr.pv k2 (by intro a9 m9 ci9 fs9 c9 z9; rw [List.mem_singleton.mp m9, g6] at z9; cases z9)
  have g10 := k2 _ _ (gnc hro gn0) w1
  have g11 := k2 _ _ (gnc (g_neA g5 g6) gn0) g5
  refine v_callV (pc' := 34) (rt := (some .boolean)) (mcc := 0) (msc := 0) (As := [.int (nI ((wVals (os j)).length)), .int (nI ((wVals (os m)).length))]) (st := []) F (fun l => c_X6_sameRows (bk := bk) G z0 l g11 g10 w2 (g1.keep (fun j hj => rfl)) g2 (by omega) (by omega)) gX6_alike_X6_sameRows rfl hv_X6_sameRows (by decide) (by decide) g11 rfl rfl rfl (Nat.le_of_ble_eq_true rfl) (by omega) (by omega) dX6_alike_31 rfl (fun v12 h7 hq => ?_)
  obtain ⟨rfl, rfl⟩ := hq
  have fr13 : gfr [rw, orw, oq] h h7 := (gfr.t (gfr.mono k1 (by intro q9 z9 m9; apply z9; simp only [List.mem_cons, List.not_mem_nil, or_false] at m9 ⊢; omega)) (gfr.mono k2 (by intro q9 z9 m9; apply z9; simp only [List.mem_cons, List.not_mem_nil, or_false] at m9 ⊢; omega)))
  have g14 := k1 _ _ (gnc (g_neA hoq hrw) gn0) hoq
  have g15 := k2 _ _ (gnc (g_neA g14 g6) gn0) g14
  refine v_zret F E (by omega) (by omega) (by split <;> decide) dX6_alike_34 ?_
  exact ⟨j, m, hj, hm, rfl, rfl, rfl, ⟨⟨_, g10⟩, ⟨_, w2⟩, _, _, _, _, g15⟩, fr13⟩
