def fidx (ad : Nat → Nat) (r : Option Nat) : Nat → Nat → Int32
  | 0, _ => -1
  | m + 1, i => if some (ad i) = r then nI i else fidx ad r m (i + 1)
theorem fidx_none (ad : Nat → Nat) : ∀ (m i : Nat), fidx ad none m i = -1
  | 0, _ => rfl
  | m + 1, i => by unfold fidx; rw [if_neg (by simp), fidx_none ad m (i + 1)]
theorem fidx_at {ad : Nat → Nat} {k : Nat} : ∀ (m i : Nat), i ≤ k → k < i + m → (∀ j, i ≤ j → j < k → ad j ≠ ad k) → fidx ad (some (ad k)) m i = nI k
  | 0, i, h1, h2, _ => by omega
  | m + 1, i, h1, h2, h3 => by
    unfold fidx
    by_cases hik : i = k
    · rw [if_pos (by rw [hik]), hik]
    · rw [if_neg (fun z => h3 i (Nat.le_refl _) (by omega) (Option.some.inj z))]
      exact fidx_at m (i + 1) (by omega) (by omega) (fun j h4 h5 => h3 j (by omega) h5)
/-- how long a version is -/
def qLen (os : List mO) : Nat := (qOf os).1.2.2.1 + (qOf os).1.2.2.2.1
def nAll (n pc dr : Nat) (ad : Nat → Nat) (pa : Nat → Option Nat) (os : Nat → List mO) (k : Nat) : Nat :=
  match k with
  | 0 => n
  | 1 => pc
  | 2 => gsum (fun i => if gsum (fun j => if pa j = some (ad i) then 1 else 0) n = 0 then 1 else 0) n
  | 3 => gsum (fun i => if (qOf (os i)).1.2.2.2.2.1 = 0 then 0 else 1) n
  | 4 => gmax (fun i => (os i).length) n
  | 5 => gsum (fun i => (qOf (os i)).2) n
  | 6 => gmax (fun i => (qOf (os i)).2) n
  | 7 => gsum (fun i => if (qOf (os i)).1.2.2.1 + (qOf (os i)).1.2.2.2.1 = 0 then 1 else 0) n
  | _ => dr
def nOne (n : Nat) (ad : Nat → Nat) (pa : Nat → Option Nat) (os : List mO) (p1 : Option Nat) (a1 : Nat) (k : Nat) : Int32 :=
  match k with
  | 0 => fidx ad p1 n 0
  | 1 => hdP os
  | 2 => nI os.length
  | 3 => nI ((qOf os).1.2.2.1 + (qOf os).1.2.2.2.1)
  | 4 => nI (qOf os).1.2.2.1
  | 5 => nI (qOf os).1.2.2.2.1
  | 6 => nI (qOf os).1.2.2.2.2.1
  | 7 => nI (qOf os).1.2.2.2.2.2.1
  | 8 => nI (qOf os).2
  | 9 => nI (gsum (fun i => if pa i = some a1 then 1 else 0) n)
  | _ => nI (qOf os).1.1.length
theorem k_X0_indexOf_0 : gCl wsX0_indexOf 0 RX0 TX0 4 := ⟨by decide +kernel, rfl⟩
theorem m_X0_indexOf_f17 : Cond.fieldLink RX0 17 "SteadyQueues$Book" "count" "I" ∈ wsX0_indexOf := by decide +kernel
theorem m_X0_indexOf_f11 : Cond.fieldLink RX0 11 "SteadyQueues$Book" "versions" "[LSteadyQueues$Version;" ∈ wsX0_indexOf := by decide +kernel
set_option maxHeartbeats 4000000 in
set_option maxRecDepth 100000 in
theorem lp_X0_indexOf {G : gG} {z0 : Nat} {X : gX} {post : Option Value → gH → Prop} {mc ms cells slots m i b va n pc dr : Nat} {h : gH} {ad : Nat → Nat} {r : Option Nat} (F : gF G z0 X cX0_indexOf 3 RX0 wsX0_indexOf (some .int) "indexOf" 0 0 mc ms) (E : gE G z0 X post mc ms) (hcc : cells ≤ mc) (hss : slots ≤ ms) (hn : n ≤ 64) (hB : isBk G h b va n pc dr ad) (hm : n = i + m) (hp : post (some (.int (fidx ad r m i))) h) : gV G z0 X cells slots h 2 [(2, .int (nI i)), (1, va_rf r), (0, .ref b)] [] := by
  induction m generalizing i with
  | zero =>
    obtain ⟨hb, f, hva, hf⟩ := id hB
    refine v_iload_n (pc' := 3) F dX0_indexOf_2 rfl (j := 0) rfl rfl ?_
    refine v_aload_n (pc' := 4) F dX0_indexOf_3 rfl (j := 2) rfl rfl ?_
    refine v_getf (pc' := 7) (v := .int (nI n)) F k_X0_indexOf_0 hb 1 (by decide) m_X0_indexOf_f17 rfl dX0_indexOf_4 rfl ?_
    refine w_icmp_ge (tgt := 28) (pc' := 10) F (by omega) (by omega) dX0_indexOf_7 (by decide) rfl (fun _ => ?_) (fun c0 => absurd c0 (by omega))
    refine v_iconst (pc' := 29) (v := (-1)) F dX0_indexOf_28 (by decide) rfl ?_
    exact v_iret F E (by omega) (by omega)  dX0_indexOf_29 hp
  | succ m ih =>
    obtain ⟨hb, f, hva, hf⟩ := id hB
    refine v_iload_n (pc' := 3) F dX0_indexOf_2 rfl (j := 0) rfl rfl ?_
    refine v_aload_n (pc' := 4) F dX0_indexOf_3 rfl (j := 2) rfl rfl ?_
    refine v_getf (pc' := 7) (v := .int (nI n)) F k_X0_indexOf_0 hb 1 (by decide) m_X0_indexOf_f17 rfl dX0_indexOf_4 rfl ?_
    refine w_icmp_ge (tgt := 28) (pc' := 10) F (by omega) (by omega) dX0_indexOf_7 (by decide) rfl (fun c0 => absurd c0 (by omega)) (fun _ => ?_)
    refine v_aload_n (pc' := 11) F dX0_indexOf_10 rfl (j := 2) rfl rfl ?_
    refine v_getf (pc' := 14) (v := .ref va) F k_X0_indexOf_0 hb 0 (by decide) m_X0_indexOf_f11 rfl dX0_indexOf_11 rfl ?_
    refine v_iload_n (pc' := 15) F dX0_indexOf_14 rfl (j := 0) rfl rfl ?_
    refine w_vald (pc' := 16) (v := some (ad i)) F hva (by omega) (by omega) (hf i (by omega)) dX0_indexOf_15 rfl ?_
    refine v_aloadq_n (pc' := 17) F dX0_indexOf_16 rfl (j := 1) rfl rfl ?_
    refine v_acmp_ne (tgt := 22) (pc' := 20) (rx := some (ad i)) (ry := r) F dX0_indexOf_17 (by decide) rfl (fun c0 => ?_) (fun c0 => ?_)
    · refine v_iinc (pc' := 25) (j := 0) (x := nI i) (v := nI (i + 1)) (L' := [(2, .int (nI (i + 1))), (1, va_rf r), (0, .ref b)]) F dX0_indexOf_22 rfl (nI_add i 1) (by decide) (by simp [gcat, gci, gcr, gcn, gcl, gvs, gvn]) rfl ?_
      refine v_goto (tgt := 2) F dX0_indexOf_25 (by decide) ?_
      refine v_sub (L' := [(2, .int (nI (i + 1))), (1, va_rf r), (0, .ref b)]) [0, 1, 2] rfl ?_
      exact ih (i := i + 1) (by omega) (by unfold fidx at hp; rw [if_neg c0] at hp; exact hp)
    · refine v_iload_n (pc' := 21) F dX0_indexOf_20 rfl (j := 0) rfl rfl ?_
      exact v_iret F E (by omega) (by omega)  dX0_indexOf_21 (by unfold fidx at hp; rw [if_pos c0] at hp; exact hp)
set_option maxHeartbeats 4000000 in
set_option maxRecDepth 100000 in
theorem c_X0_indexOf (G : gG) (z0 : Nat) (l : Launch) {h : gH} {b va n pc dr : Nat} {ad : Nat → Nat} {r : Option Nat} (hn : n ≤ 64) (hB : isBk G h b va n pc dr ad) : gC G z0 l yX0_indexOf wsX0_indexOf 0 0 [.ref b, va_rf r] h (fun o h' => o = some (.int (fidx ad r n 0)) ∧ h' = h) 0 0 := by
  refine gC_of (cc := cX0_indexOf) (nL := 3) (ret := (some .int)) (by decide) rfl (by simp [lg_sl, gcat, gci, gcr, gcn, gcl, gvs, gvn]) ?_
  intro X F E _
  rw [show lv_args 0 [.ref b, va_rf r] = [(0, .ref b), (1, va_rf r)] from by simp [lv_args, gcat, gci, gcr, gcn, gcl, gvs, gvn]]
  change gF G z0 X cX0_indexOf 3 RX0 wsX0_indexOf (some .int) "indexOf" 0 0 _ _ at F
  show gV G z0 X 0 0 h 0 [(0, .ref b), (1, va_rf r)] []
  refine v_iconst (pc' := 1) (v := nI 0) F dX0_indexOf_0 (by decide) rfl ?_
  refine v_istore_n (pc' := 2) (i := 2) (L' := [(2, .int (nI 0)), (0, .ref b), (1, va_rf r)]) F dX0_indexOf_1 rfl (by decide) (by simp [gcat, gci, gcr, gcn, gcl, gvs, gvn]) rfl ?_
  refine v_sub (L' := [(2, .int (nI 0)), (1, va_rf r), (0, .ref b)]) [0, 2, 1] rfl ?_
  exact lp_X0_indexOf (i := 0) (m := n) F E (Nat.le_refl _) (Nat.le_refl _) hn hB (by omega) ⟨rfl, rfl⟩
theorem k_X0_longerAhead_0 : gCl wsX0_longerAhead 0 RX0 TX0 4 := ⟨by decide +kernel, rfl⟩
theorem m_X0_longerAhead_f17 : Cond.fieldLink RX0 17 "SteadyQueues$Book" "count" "I" ∈ wsX0_longerAhead := by decide +kernel
theorem m_X0_longerAhead_f11 : Cond.fieldLink RX0 11 "SteadyQueues$Book" "versions" "[LSteadyQueues$Version;" ∈ wsX0_longerAhead := by decide +kernel
set_option maxHeartbeats 4000000 in
set_option maxRecDepth 100000 in
theorem lp_X0_longerAhead {G : gG} {z0 : Nat} {X : gX} {post : Option Value → gH → Prop} {mc ms cells slots m i acc : Nat} {h : gH} {b va n pc dr : Nat} {ad : Nat → Nat} {pa : Nat → Option Nat} {os : Nat → List mO} {k : Nat} (hk : k < n) (F : gF G z0 X cX0_longerAhead 6 RX0 wsX0_longerAhead (some .int) "longerAhead" 1 20 mc ms) (E : gE G z0 X post mc ms) (hcc : cells ≤ mc) (hss : slots ≤ ms) (hn : n ≤ 64) (hB : isBk G h b va n pc dr ad) (hVs : ∀ i, i < n → isVx h (ad i) (pa i) (os i)) (hO : ∀ i, i < n → wOk (os i) ∧ (os i).length < 64) (hA : ∀ j, j ≤ n → gsum (fun i => if qLen (os i) > qLen (os k) ∨ (qLen (os i) = qLen (os k) ∧ i < k) then 1 else 0) j < 65536) (hm : n = i + m) (ha : acc = gsum (fun i => if qLen (os i) > qLen (os k) ∨ (qLen (os i) = qLen (os k) ∧ i < k) then 1 else 0) i) (hp : post (some (.int (nI (gsum (fun i => if qLen (os i) > qLen (os k) ∨ (qLen (os i) = qLen (os k) ∧ i < k) then 1 else 0) n)))) h) : gV G z0 X cells slots h 15 [(4, .int (nI i)), (3, .int (nI acc)), (2, .int (nI (qLen (os k)))), (1, .int (nI k)), (0, .ref b)] [] := by
  induction m generalizing i acc with
  | zero =>
    obtain ⟨hb, f, hva, hf⟩ := id hB
    have hin : i = n := by omega
    subst hin
    subst ha
    refine v_iload (pc' := 17) F dX0_longerAhead_15  (j := 0) rfl rfl ?_
    refine v_aload_n (pc' := 18) F dX0_longerAhead_17 rfl (j := 4) rfl rfl ?_
    refine v_getf (pc' := 21) (v := .int (nI i)) F k_X0_longerAhead_0 hb 1 (by decide) m_X0_longerAhead_f17 rfl dX0_longerAhead_18 rfl ?_
    refine w_icmp_ge (tgt := 63) (pc' := 24) F (by omega) (by omega) dX0_longerAhead_21 (by decide) rfl (fun _ => ?_) (fun c0 => absurd c0 (by omega))
    refine v_iload_n (pc' := 64) F dX0_longerAhead_63 rfl (j := 1) rfl rfl ?_
    exact v_iret F E (by omega) (by omega)  dX0_longerAhead_64 hp
  | succ m ih =>
    obtain ⟨hb, f, hva, hf⟩ := id hB
    have hO1 := hO i (by omega)
    have hq4 := qOf_le hO1.1
    have hqf := qOf_fl hO1.1
    have hqs := qOf_small hO1.1
    have hac := hA i (by omega)
    obtain ⟨ti, ai, bi, hvi, hfai, hfbi, hTi, x3i, x4i, x5i, x6i, hti⟩ := (hVs i (by omega)).obj
    refine v_iload (pc' := 17) F dX0_longerAhead_15  (j := 0) rfl rfl ?_
    refine v_aload_n (pc' := 18) F dX0_longerAhead_17 rfl (j := 4) rfl rfl ?_
    refine v_getf (pc' := 21) (v := .int (nI n)) F k_X0_longerAhead_0 hb 1 (by decide) m_X0_longerAhead_f17 rfl dX0_longerAhead_18 rfl ?_
    refine w_icmp_ge (tgt := 63) (pc' := 24) F (by omega) (by omega) dX0_longerAhead_21 (by decide) rfl (fun c0 => absurd c0 (by omega)) (fun _ => ?_)
    refine v_aload_n (pc' := 25) F dX0_longerAhead_24 rfl (j := 4) rfl rfl ?_
    refine v_getf (pc' := 28) (v := .ref va) F k_X0_longerAhead_0 hb 0 (by decide) m_X0_longerAhead_f11 rfl dX0_longerAhead_25 rfl ?_
    refine v_iload (pc' := 30) F dX0_longerAhead_28  (j := 0) rfl rfl ?_
    refine w_vald (pc' := 31) (v := some (ad i)) F hva (by omega) (by omega) (hf i (by omega)) dX0_longerAhead_30 rfl ?_
    refine v_callV (pc' := 34) (rt := (some .int)) (mcc := 0) (msc := 0) (As := []) (st := []) F (fun l => c_X5_length G z0 l (hVs i (by omega)).choose_spec) gX0_longerAhead_X5_length rfl hv_X5_length (by decide) (by decide) hvi rfl rfl rfl (Nat.le_of_ble_eq_true rfl) (by omega) (by omega) dX0_longerAhead_31 rfl (fun v1 h hq => ?_)
    obtain ⟨rfl, rfl⟩ := hq
    have hli : qLen (os i) < 65536 := by unfold qLen; omega
    have hlk : qLen (os k) < 65536 := by have h8 := qOf_fl (hO k hk).1; have h9 := (hO k hk).2; unfold qLen; omega
    refine v_istore (pc' := 36) (i := 5) (L' := [(5, .int (nI (qLen (os i)))), (4, .int (nI i)), (3, .int (nI acc)), (2, .int (nI (qLen (os k)))), (1, .int (nI k)), (0, .ref b)]) F dX0_longerAhead_34  (by decide) rfl rfl ?_
    refine v_iload (pc' := 38) F dX0_longerAhead_36  (j := 0) rfl rfl ?_
    refine v_iload_n (pc' := 39) F dX0_longerAhead_38 rfl (j := 3) rfl rfl ?_
    refine w_icmp_gt (tgt := 54) (pc' := 42) F (by omega) (by omega) dX0_longerAhead_39 (by decide) rfl (fun c0 => ?_) (fun c0 => ?_)
    · refine v_iinc (pc' := 57) (j := 2) (x := nI acc) (v := nI (acc + 1)) (L' := [(3, .int (nI (acc + 1))), (5, .int (nI (qLen (os i)))), (4, .int (nI i)), (2, .int (nI (qLen (os k)))), (1, .int (nI k)), (0, .ref b)]) F dX0_longerAhead_54 rfl (nI_add acc 1) (by decide) rfl rfl ?_
      refine v_iinc (pc' := 60) (j := 2) (x := nI i) (v := nI (i + 1)) (L' := [(4, .int (nI (i + 1))), (3, .int (nI (acc + 1))), (5, .int (nI (qLen (os i)))), (2, .int (nI (qLen (os k)))), (1, .int (nI k)), (0, .ref b)]) F dX0_longerAhead_57 rfl (nI_add i 1) (by decide) rfl rfl ?_
      refine v_goto (tgt := 15) F dX0_longerAhead_60 (by decide) ?_
      refine v_sub (L' := [(4, .int (nI (i + 1))), (3, .int (nI (acc + 1))), (2, .int (nI (qLen (os k)))), (1, .int (nI k)), (0, .ref b)]) [0, 1, 3, 4, 5] rfl ?_
      exact ih (i := i + 1) (acc := acc + 1) (by omega) (by rw [gsum_s, if_pos (by omega), ha])
    · refine v_iload (pc' := 44) F dX0_longerAhead_42  (j := 0) rfl rfl ?_
      refine v_iload_n (pc' := 45) F dX0_longerAhead_44 rfl (j := 3) rfl rfl ?_
      refine w_icmp_ne (tgt := 57) (pc' := 48) F (by omega) (by omega) dX0_longerAhead_45 (by decide) rfl (fun c1 => ?_) (fun c1 => ?_)
      · refine v_iinc (pc' := 60) (j := 1) (x := nI i) (v := nI (i + 1)) (L' := [(4, .int (nI (i + 1))), (5, .int (nI (qLen (os i)))), (3, .int (nI acc)), (2, .int (nI (qLen (os k)))), (1, .int (nI k)), (0, .ref b)]) F dX0_longerAhead_57 rfl (nI_add i 1) (by decide) rfl rfl ?_
        refine v_goto (tgt := 15) F dX0_longerAhead_60 (by decide) ?_
        refine v_sub (L' := [(4, .int (nI (i + 1))), (3, .int (nI acc)), (2, .int (nI (qLen (os k)))), (1, .int (nI k)), (0, .ref b)]) [0, 2, 3, 4, 5] rfl ?_
        exact ih (i := i + 1) (acc := acc) (by omega) (by rw [gsum_s, if_neg (by omega), ha]; rfl)
      · refine v_iload (pc' := 50) F dX0_longerAhead_48  (j := 1) rfl rfl ?_
        refine v_iload_n (pc' := 51) F dX0_longerAhead_50 rfl (j := 4) rfl rfl ?_
        refine w_icmp_ge (tgt := 57) (pc' := 54) F (by omega) (by omega) dX0_longerAhead_51 (by decide) rfl (fun c2 => ?_) (fun c2 => ?_)
        · refine v_iinc (pc' := 60) (j := 1) (x := nI i) (v := nI (i + 1)) (L' := [(4, .int (nI (i + 1))), (5, .int (nI (qLen (os i)))), (3, .int (nI acc)), (2, .int (nI (qLen (os k)))), (1, .int (nI k)), (0, .ref b)]) F dX0_longerAhead_57 rfl (nI_add i 1) (by decide) rfl rfl ?_
          refine v_goto (tgt := 15) F dX0_longerAhead_60 (by decide) ?_
          refine v_sub (L' := [(4, .int (nI (i + 1))), (3, .int (nI acc)), (2, .int (nI (qLen (os k)))), (1, .int (nI k)), (0, .ref b)]) [0, 2, 3, 4, 5] rfl ?_
          exact ih (i := i + 1) (acc := acc) (by omega) (by rw [gsum_s, if_neg (by omega), ha]; rfl)
        · refine v_iinc (pc' := 57) (j := 2) (x := nI acc) (v := nI (acc + 1)) (L' := [(3, .int (nI (acc + 1))), (5, .int (nI (qLen (os i)))), (4, .int (nI i)), (2, .int (nI (qLen (os k)))), (1, .int (nI k)), (0, .ref b)]) F dX0_longerAhead_54 rfl (nI_add acc 1) (by decide) rfl rfl ?_
          refine v_iinc (pc' := 60) (j := 2) (x := nI i) (v := nI (i + 1)) (L' := [(4, .int (nI (i + 1))), (3, .int (nI (acc + 1))), (5, .int (nI (qLen (os i)))), (2, .int (nI (qLen (os k)))), (1, .int (nI k)), (0, .ref b)]) F dX0_longerAhead_57 rfl (nI_add i 1) (by decide) rfl rfl ?_
          refine v_goto (tgt := 15) F dX0_longerAhead_60 (by decide) ?_
          refine v_sub (L' := [(4, .int (nI (i + 1))), (3, .int (nI (acc + 1))), (2, .int (nI (qLen (os k)))), (1, .int (nI k)), (0, .ref b)]) [0, 1, 3, 4, 5] rfl ?_
          exact ih (i := i + 1) (acc := acc + 1) (by omega) (by rw [gsum_s, if_pos (by omega), ha])
set_option maxHeartbeats 4000000 in
set_option maxRecDepth 100000 in
theorem c_X0_longerAhead (G : gG) (z0 : Nat) (l : Launch) {h : gH} {b va n pc dr : Nat} {ad : Nat → Nat} {pa : Nat → Option Nat} {os : Nat → List mO} {k : Nat} (hn : n ≤ 64) (hB : isBk G h b va n pc dr ad) (hVs : ∀ i, i < n → isVx h (ad i) (pa i) (os i)) (hO : ∀ i, i < n → wOk (os i) ∧ (os i).length < 64) (hk : k < n) : gC G z0 l yX0_longerAhead wsX0_longerAhead 1 20 [.ref b, .int (nI k)] h (fun o h' => o = some (.int (nI (gsum (fun i => if qLen (os i) > qLen (os k) ∨ (qLen (os i) = qLen (os k) ∧ i < k) then 1 else 0) n))) ∧ h' = h) 0 0 := by
  refine gC_of (cc := cX0_longerAhead) (nL := 6) (ret := (some .int)) (by decide) rfl (Nat.le_of_ble_eq_true rfl) ?_
  intro X F E _
  change gF G z0 X cX0_longerAhead 6 RX0 wsX0_longerAhead (some .int) "longerAhead" 1 20 _ _ at F
  show gV G z0 X 0 0 h 0 [(0, .ref b), (1, .int (nI k))] []
  obtain ⟨hb, f, hva, hf⟩ := id hB
  have hk0 := hk
  obtain ⟨tk, ak, bk, hvk, hfak, hfbk, hTk, x3k, x4k, x5k, x6k, htk⟩ := (hVs k hk).obj
  refine v_aload_n (pc' := 1) F dX0_longerAhead_0 rfl (j := 0) rfl rfl ?_
  refine v_getf (pc' := 4) (v := .ref va) F k_X0_longerAhead_0 hb 0 (by decide) m_X0_longerAhead_f11 rfl dX0_longerAhead_1 rfl ?_
  refine v_iload_n (pc' := 5) F dX0_longerAhead_4 rfl (j := 1) rfl rfl ?_
  refine w_vald (pc' := 6) (v := some (ad k)) F hva (by omega) (by omega) (hf k (by omega)) dX0_longerAhead_5 rfl ?_
  refine v_callV (pc' := 9) (rt := (some .int)) (mcc := 0) (msc := 0) (As := []) (st := []) F (fun l => c_X5_length G z0 l (hVs k hk).choose_spec) gX0_longerAhead_X5_length rfl hv_X5_length (by decide) (by decide) hvk rfl rfl rfl (Nat.le_of_ble_eq_true rfl) (by omega) (by omega) dX0_longerAhead_6 rfl (fun v1 h hq => ?_)
  obtain ⟨rfl, rfl⟩ := hq
  refine v_istore_n (pc' := 10) (i := 2) (L' := [(2, .int (nI (qLen (os k)))), (0, .ref b), (1, .int (nI k))]) F dX0_longerAhead_9 rfl (by decide) rfl rfl ?_
  refine v_iconst (pc' := 11) (v := nI 0) F dX0_longerAhead_10 (by decide) rfl ?_
  refine v_istore_n (pc' := 12) (i := 3) (L' := [(3, .int (nI 0)), (2, .int (nI (qLen (os k)))), (0, .ref b), (1, .int (nI k))]) F dX0_longerAhead_11 rfl (by decide) rfl rfl ?_
  refine v_iconst (pc' := 13) (v := nI 0) F dX0_longerAhead_12 (by decide) rfl ?_
  refine v_istore (pc' := 15) (i := 4) (L' := [(4, .int (nI 0)), (3, .int (nI 0)), (2, .int (nI (qLen (os k)))), (0, .ref b), (1, .int (nI k))]) F dX0_longerAhead_13  (by decide) rfl rfl ?_
  refine v_sub (L' := [(4, .int (nI 0)), (3, .int (nI 0)), (2, .int (nI (qLen (os k)))), (1, .int (nI k)), (0, .ref b)]) [0, 1, 2, 4, 3] rfl ?_
  exact lp_X0_longerAhead hk (i := 0) (m := n) F E (Nat.le_refl _) (Nat.le_refl _) hn hB hVs hO (fun j hj => by have := gsum_le (f := (fun i => if qLen (os i) > qLen (os k) ∨ (qLen (os i) = qLen (os k) ∧ i < k) then 1 else 0)) (c := 1) (n := j) (fun i hi => by split <;> omega); omega) (by omega) rfl ⟨rfl, rfl⟩
theorem k_X0_numberOfAll_0 : gCl wsX0_numberOfAll 0 RX0 TX0 4 := ⟨by decide +kernel, rfl⟩
theorem m_X0_numberOfAll_f17 : Cond.fieldLink RX0 17 "SteadyQueues$Book" "count" "I" ∈ wsX0_numberOfAll := by decide +kernel
theorem m_X0_numberOfAll_f21 : Cond.fieldLink RX0 21 "SteadyQueues$Book" "pace" "I" ∈ wsX0_numberOfAll := by decide +kernel
theorem hv_X0_withoutChildren : yX0_withoutChildren.cls = RX0 ∧ yX0_withoutChildren.cls ≠ "java/lang/invoke/MethodHandle" ∧ yX0_withoutChildren.cls ≠ "java/lang/invoke/VarHandle" ∧ (parseMethodDescriptor yX0_withoutChildren.desc).map (fun d => d.parameters.length) = some 0 := by decide +kernel
theorem hv_X0_turning : yX0_turning.cls = RX0 ∧ yX0_turning.cls ≠ "java/lang/invoke/MethodHandle" ∧ yX0_turning.cls ≠ "java/lang/invoke/VarHandle" ∧ (parseMethodDescriptor yX0_turning.desc).map (fun d => d.parameters.length) = some 0 := by decide +kernel
theorem hv_X0_greatestDepth : yX0_greatestDepth.cls = RX0 ∧ yX0_greatestDepth.cls ≠ "java/lang/invoke/MethodHandle" ∧ yX0_greatestDepth.cls ≠ "java/lang/invoke/VarHandle" ∧ (parseMethodDescriptor yX0_greatestDepth.desc).map (fun d => d.parameters.length) = some 0 := by decide +kernel
theorem hv_X0_allSteps : yX0_allSteps.cls = RX0 ∧ yX0_allSteps.cls ≠ "java/lang/invoke/MethodHandle" ∧ yX0_allSteps.cls ≠ "java/lang/invoke/VarHandle" ∧ (parseMethodDescriptor yX0_allSteps.desc).map (fun d => d.parameters.length) = some 0 := by decide +kernel
theorem hv_X0_mostSteps : yX0_mostSteps.cls = RX0 ∧ yX0_mostSteps.cls ≠ "java/lang/invoke/MethodHandle" ∧ yX0_mostSteps.cls ≠ "java/lang/invoke/VarHandle" ∧ (parseMethodDescriptor yX0_mostSteps.desc).map (fun d => d.parameters.length) = some 0 := by decide +kernel
theorem hv_X0_withoutValues : yX0_withoutValues.cls = RX0 ∧ yX0_withoutValues.cls ≠ "java/lang/invoke/MethodHandle" ∧ yX0_withoutValues.cls ≠ "java/lang/invoke/VarHandle" ∧ (parseMethodDescriptor yX0_withoutValues.desc).map (fun d => d.parameters.length) = some 0 := by decide +kernel
theorem m_X0_numberOfAll_f24 : Cond.fieldLink RX0 24 "SteadyQueues$Book" "dropped" "I" ∈ wsX0_numberOfAll := by decide +kernel
set_option maxHeartbeats 4000000 in
set_option maxRecDepth 100000 in
theorem c_X0_numberOfAll (G : gG) (z0 : Nat) (l : Launch) {h : gH} {b va n pc dr : Nat} {ad : Nat → Nat} {pa : Nat → Option Nat} {os : Nat → List mO} {k : Nat} (hn : n ≤ 64) (hB : isBk G h b va n pc dr ad) (hVs : ∀ i, i < n → isVx h (ad i) (pa i) (os i)) (hO : ∀ i, i < n → wOk (os i) ∧ (os i).length < 64) (hk : k < 10 ∧ k ≠ 8) : gC G z0 l yX0_numberOfAll wsX0_numberOfAll 2 45 [.ref b, .int (nI k)] h (fun o h' => o = some (.int (nI (nAll n pc dr ad pa os k))) ∧ h' = h) 0 0 := by
  have hk9 : k = 0 ∨ k = 1 ∨ k = 2 ∨ k = 3 ∨ k = 4 ∨ k = 5 ∨ k = 6 ∨ k = 7 ∨ k = 9 := by omega
  obtain ⟨hb, f, hva, hf⟩ := id hB
  rcases hk9 with rfl | rfl | rfl | rfl | rfl | rfl | rfl | rfl | rfl
  · refine gC_of (cc := cX0_numberOfAll) (nL := 2) (ret := (some .int)) (by decide) rfl (Nat.le_of_ble_eq_true rfl) ?_
    intro X F E _
    change gF G z0 X cX0_numberOfAll 2 RX0 wsX0_numberOfAll (some .int) "numberOfAll" 2 45 _ _ at F
    show gV G z0 X 0 0 h 0 [(0, .ref b), (1, .int (nI 0))] []
    refine v_iload_n (pc' := 1) F dX0_numberOfAll_0 rfl (j := 1) rfl rfl ?_
    refine v_tableIn (tgt := 56) (off := 55) F dX0_numberOfAll_1 (by decide) (by decide) rfl (by decide) ?_
    refine v_aload_n (pc' := 57) F dX0_numberOfAll_56 rfl (j := 0) rfl rfl ?_
    refine v_getf (pc' := 60) (v := .int (nI n)) F k_X0_numberOfAll_0 hb 1 (by decide) m_X0_numberOfAll_f17 rfl dX0_numberOfAll_57 rfl ?_
    exact v_iret F E (by omega) (by omega)  dX0_numberOfAll_60 ⟨rfl, rfl⟩
  · refine gC_of (cc := cX0_numberOfAll) (nL := 2) (ret := (some .int)) (by decide) rfl (Nat.le_of_ble_eq_true rfl) ?_
    intro X F E _
    change gF G z0 X cX0_numberOfAll 2 RX0 wsX0_numberOfAll (some .int) "numberOfAll" 2 45 _ _ at F
    show gV G z0 X 0 0 h 0 [(0, .ref b), (1, .int (nI 1))] []
    refine v_iload_n (pc' := 1) F dX0_numberOfAll_0 rfl (j := 1) rfl rfl ?_
    refine v_tableIn (tgt := 61) (off := 60) F dX0_numberOfAll_1 (by decide) (by decide) rfl (by decide) ?_
    refine v_aload_n (pc' := 62) F dX0_numberOfAll_61 rfl (j := 0) rfl rfl ?_
    refine v_getf (pc' := 65) (v := .int (nI pc)) F k_X0_numberOfAll_0 hb 2 (by decide) m_X0_numberOfAll_f21 rfl dX0_numberOfAll_62 rfl ?_
    exact v_iret F E (by omega) (by omega)  dX0_numberOfAll_65 ⟨rfl, rfl⟩
  · refine gC_of (cc := cX0_numberOfAll) (nL := 2) (ret := (some .int)) (by decide) rfl (Nat.le_of_ble_eq_true rfl) ?_
    intro X F E _
    change gF G z0 X cX0_numberOfAll 2 RX0 wsX0_numberOfAll (some .int) "numberOfAll" 2 45 _ _ at F
    show gV G z0 X 0 0 h 0 [(0, .ref b), (1, .int (nI 2))] []
    refine v_iload_n (pc' := 1) F dX0_numberOfAll_0 rfl (j := 1) rfl rfl ?_
    refine v_tableIn (tgt := 66) (off := 65) F dX0_numberOfAll_1 (by decide) (by decide) rfl (by decide) ?_
    refine v_aload_n (pc' := 67) F dX0_numberOfAll_66 rfl (j := 0) rfl rfl ?_
    refine v_callV (pc' := 70) (rt := (some .int)) (mcc := 0) (msc := 0) (As := []) (st := []) F (fun l => c_X0_withoutChildren G z0 l hn hB hVs hO) gX0_numberOfAll_X0_withoutChildren rfl hv_X0_withoutChildren (by decide) (by decide) hb rfl rfl rfl (Nat.le_of_ble_eq_true rfl) (by omega) (by omega) dX0_numberOfAll_67 rfl (fun v1 h hq => ?_)
    obtain ⟨rfl, rfl⟩ := hq
    exact v_iret F E (by omega) (by omega)  dX0_numberOfAll_70 ⟨rfl, rfl⟩
  · refine gC_of (cc := cX0_numberOfAll) (nL := 2) (ret := (some .int)) (by decide) rfl (Nat.le_of_ble_eq_true rfl) ?_
    intro X F E _
    change gF G z0 X cX0_numberOfAll 2 RX0 wsX0_numberOfAll (some .int) "numberOfAll" 2 45 _ _ at F
    show gV G z0 X 0 0 h 0 [(0, .ref b), (1, .int (nI 3))] []
    refine v_iload_n (pc' := 1) F dX0_numberOfAll_0 rfl (j := 1) rfl rfl ?_
    refine v_tableIn (tgt := 71) (off := 70) F dX0_numberOfAll_1 (by decide) (by decide) rfl (by decide) ?_
    refine v_aload_n (pc' := 72) F dX0_numberOfAll_71 rfl (j := 0) rfl rfl ?_
    refine v_callV (pc' := 75) (rt := (some .int)) (mcc := 0) (msc := 0) (As := []) (st := []) F (fun l => c_X0_turning G z0 l hn hB hVs hO) gX0_numberOfAll_X0_turning rfl hv_X0_turning (by decide) (by decide) hb rfl rfl rfl (Nat.le_of_ble_eq_true rfl) (by omega) (by omega) dX0_numberOfAll_72 rfl (fun v1 h hq => ?_)
    obtain ⟨rfl, rfl⟩ := hq
    exact v_iret F E (by omega) (by omega)  dX0_numberOfAll_75 ⟨rfl, rfl⟩
  · refine gC_of (cc := cX0_numberOfAll) (nL := 2) (ret := (some .int)) (by decide) rfl (Nat.le_of_ble_eq_true rfl) ?_
    intro X F E _
    change gF G z0 X cX0_numberOfAll 2 RX0 wsX0_numberOfAll (some .int) "numberOfAll" 2 45 _ _ at F
    show gV G z0 X 0 0 h 0 [(0, .ref b), (1, .int (nI 4))] []
    refine v_iload_n (pc' := 1) F dX0_numberOfAll_0 rfl (j := 1) rfl rfl ?_
    refine v_tableIn (tgt := 76) (off := 75) F dX0_numberOfAll_1 (by decide) (by decide) rfl (by decide) ?_
    refine v_aload_n (pc' := 77) F dX0_numberOfAll_76 rfl (j := 0) rfl rfl ?_
    refine v_callV (pc' := 80) (rt := (some .int)) (mcc := 0) (msc := 0) (As := []) (st := []) F (fun l => c_X0_greatestDepth G z0 l hn hB hVs hO) gX0_numberOfAll_X0_greatestDepth rfl hv_X0_greatestDepth (by decide) (by decide) hb rfl rfl rfl (Nat.le_of_ble_eq_true rfl) (by omega) (by omega) dX0_numberOfAll_77 rfl (fun v1 h hq => ?_)
    obtain ⟨rfl, rfl⟩ := hq
    exact v_iret F E (by omega) (by omega)  dX0_numberOfAll_80 ⟨rfl, rfl⟩
  · refine gC_of (cc := cX0_numberOfAll) (nL := 2) (ret := (some .int)) (by decide) rfl (Nat.le_of_ble_eq_true rfl) ?_
    intro X F E _
    change gF G z0 X cX0_numberOfAll 2 RX0 wsX0_numberOfAll (some .int) "numberOfAll" 2 45 _ _ at F
    show gV G z0 X 0 0 h 0 [(0, .ref b), (1, .int (nI 5))] []
    refine v_iload_n (pc' := 1) F dX0_numberOfAll_0 rfl (j := 1) rfl rfl ?_
    refine v_tableIn (tgt := 81) (off := 80) F dX0_numberOfAll_1 (by decide) (by decide) rfl (by decide) ?_
    refine v_aload_n (pc' := 82) F dX0_numberOfAll_81 rfl (j := 0) rfl rfl ?_
    refine v_callV (pc' := 85) (rt := (some .int)) (mcc := 0) (msc := 0) (As := []) (st := []) F (fun l => c_X0_allSteps G z0 l hn hB hVs hO) gX0_numberOfAll_X0_allSteps rfl hv_X0_allSteps (by decide) (by decide) hb rfl rfl rfl (Nat.le_of_ble_eq_true rfl) (by omega) (by omega) dX0_numberOfAll_82 rfl (fun v1 h hq => ?_)
    obtain ⟨rfl, rfl⟩ := hq
    exact v_iret F E (by omega) (by omega)  dX0_numberOfAll_85 ⟨rfl, rfl⟩
  · refine gC_of (cc := cX0_numberOfAll) (nL := 2) (ret := (some .int)) (by decide) rfl (Nat.le_of_ble_eq_true rfl) ?_
    intro X F E _
    change gF G z0 X cX0_numberOfAll 2 RX0 wsX0_numberOfAll (some .int) "numberOfAll" 2 45 _ _ at F
    show gV G z0 X 0 0 h 0 [(0, .ref b), (1, .int (nI 6))] []
    refine v_iload_n (pc' := 1) F dX0_numberOfAll_0 rfl (j := 1) rfl rfl ?_
    refine v_tableIn (tgt := 86) (off := 85) F dX0_numberOfAll_1 (by decide) (by decide) rfl (by decide) ?_
    refine v_aload_n (pc' := 87) F dX0_numberOfAll_86 rfl (j := 0) rfl rfl ?_
    refine v_callV (pc' := 90) (rt := (some .int)) (mcc := 0) (msc := 0) (As := []) (st := []) F (fun l => c_X0_mostSteps G z0 l hn hB hVs hO) gX0_numberOfAll_X0_mostSteps rfl hv_X0_mostSteps (by decide) (by decide) hb rfl rfl rfl (Nat.le_of_ble_eq_true rfl) (by omega) (by omega) dX0_numberOfAll_87 rfl (fun v1 h hq => ?_)
    obtain ⟨rfl, rfl⟩ := hq
    exact v_iret F E (by omega) (by omega)  dX0_numberOfAll_90 ⟨rfl, rfl⟩
  · refine gC_of (cc := cX0_numberOfAll) (nL := 2) (ret := (some .int)) (by decide) rfl (Nat.le_of_ble_eq_true rfl) ?_
    intro X F E _
    change gF G z0 X cX0_numberOfAll 2 RX0 wsX0_numberOfAll (some .int) "numberOfAll" 2 45 _ _ at F
    show gV G z0 X 0 0 h 0 [(0, .ref b), (1, .int (nI 7))] []
    refine v_iload_n (pc' := 1) F dX0_numberOfAll_0 rfl (j := 1) rfl rfl ?_
    refine v_tableIn (tgt := 91) (off := 90) F dX0_numberOfAll_1 (by decide) (by decide) rfl (by decide) ?_
    refine v_aload_n (pc' := 92) F dX0_numberOfAll_91 rfl (j := 0) rfl rfl ?_
    refine v_callV (pc' := 95) (rt := (some .int)) (mcc := 0) (msc := 0) (As := []) (st := []) F (fun l => c_X0_withoutValues G z0 l hn hB hVs hO) gX0_numberOfAll_X0_withoutValues rfl hv_X0_withoutValues (by decide) (by decide) hb rfl rfl rfl (Nat.le_of_ble_eq_true rfl) (by omega) (by omega) dX0_numberOfAll_92 rfl (fun v1 h hq => ?_)
    obtain ⟨rfl, rfl⟩ := hq
    exact v_iret F E (by omega) (by omega)  dX0_numberOfAll_95 ⟨rfl, rfl⟩
  · refine gC_of (cc := cX0_numberOfAll) (nL := 2) (ret := (some .int)) (by decide) rfl (Nat.le_of_ble_eq_true rfl) ?_
    intro X F E _
    change gF G z0 X cX0_numberOfAll 2 RX0 wsX0_numberOfAll (some .int) "numberOfAll" 2 45 _ _ at F
    show gV G z0 X 0 0 h 0 [(0, .ref b), (1, .int (nI 9))] []
    refine v_iload_n (pc' := 1) F dX0_numberOfAll_0 rfl (j := 1) rfl rfl ?_
    refine v_tableIn (tgt := 96) (off := 95) F dX0_numberOfAll_1 (by decide) (by decide) rfl (by decide) ?_
    refine v_aload_n (pc' := 97) F dX0_numberOfAll_96 rfl (j := 0) rfl rfl ?_
    refine v_getf (pc' := 100) (v := .int (nI dr)) F k_X0_numberOfAll_0 hb 3 (by decide) m_X0_numberOfAll_f24 rfl dX0_numberOfAll_97 rfl ?_
    exact v_iret F E (by omega) (by omega)  dX0_numberOfAll_100 ⟨rfl, rfl⟩
theorem k_X0_numberOfOne_0 : gCl wsX0_numberOfOne 0 RX0 TX0 4 := ⟨by decide +kernel, rfl⟩
theorem m_X0_numberOfOne_f11 : Cond.fieldLink RX0 11 "SteadyQueues$Book" "versions" "[LSteadyQueues$Version;" ∈ wsX0_numberOfOne := by decide +kernel
theorem k_X0_numberOfOne_5 : gCl wsX0_numberOfOne 5 RX5 TX5 9 := ⟨by decide +kernel, rfl⟩
theorem m_X0_numberOfOne_f44 : Cond.fieldLink RX0 44 "SteadyQueues$Version" "parent" "LSteadyQueues$Version;" ∈ wsX0_numberOfOne := by decide +kernel
theorem hv_X0_indexOf : yX0_indexOf.cls = RX0 ∧ yX0_indexOf.cls ≠ "java/lang/invoke/MethodHandle" ∧ yX0_indexOf.cls ≠ "java/lang/invoke/VarHandle" ∧ (parseMethodDescriptor yX0_indexOf.desc).map (fun d => d.parameters.length) = some 1 := by decide +kernel
theorem m_X0_numberOfOne_f73 : Cond.fieldLink RX0 73 "SteadyQueues$Version" "pushed" "I" ∈ wsX0_numberOfOne := by decide +kernel
theorem m_X0_numberOfOne_f76 : Cond.fieldLink RX0 76 "SteadyQueues$Version" "depth" "I" ∈ wsX0_numberOfOne := by decide +kernel
theorem m_X0_numberOfOne_f79 : Cond.fieldLink RX0 79 "SteadyQueues$Version" "frontLength" "I" ∈ wsX0_numberOfOne := by decide +kernel
theorem m_X0_numberOfOne_f82 : Cond.fieldLink RX0 82 "SteadyQueues$Version" "rearLength" "I" ∈ wsX0_numberOfOne := by decide +kernel
theorem m_X0_numberOfOne_f85 : Cond.fieldLink RX0 85 "SteadyQueues$Version" "turn" "LSteadyQueues$Turn;" ∈ wsX0_numberOfOne := by decide +kernel
theorem k_X0_numberOfOne_4 : gCl wsX0_numberOfOne 4 RX4 TX4 6 := ⟨by decide +kernel, rfl⟩
theorem m_X0_numberOfOne_f89 : Cond.fieldLink RX0 89 "SteadyQueues$Turn" "kind" "I" ∈ wsX0_numberOfOne := by decide +kernel
theorem m_X0_numberOfOne_f94 : Cond.fieldLink RX0 94 "SteadyQueues$Turn" "ok" "I" ∈ wsX0_numberOfOne := by decide +kernel
theorem m_X0_numberOfOne_f97 : Cond.fieldLink RX0 97 "SteadyQueues$Version" "steps" "I" ∈ wsX0_numberOfOne := by decide +kernel
theorem m_X0_numberOfOne_f103 : Cond.fieldLink RX0 103 "SteadyQueues$Version" "front" "LSteadyQueues$Cell;" ∈ wsX0_numberOfOne := by decide +kernel
theorem qJ.fb {b : Nat} {xs : List Int32} {q : mQ} (h : qJ b xs q) : q.1.length ≤ b := by
  obtain ⟨f, r, fl, rl, k, ok, oF, nF, oR, nR⟩ := q
  obtain ⟨⟨h1, h2, h3, -⟩, -⟩ := h
  exact h3
set_option maxHeartbeats 4000000 in
set_option maxRecDepth 100000 in
theorem c_X0_numberOfOne (G : gG) (z0 : Nat) (l : Launch) {h : gH} {b va n pc dr : Nat} {ad : Nat → Nat} {pa : Nat → Option Nat} {os : Nat → List mO} {i k : Nat} (hn : n ≤ 64) (hB : isBk G h b va n pc dr ad) (hVs : ∀ i, i < n → isVx h (ad i) (pa i) (os i)) (hO : ∀ i, i < n → wOk (os i) ∧ (os i).length < 64) (hi : i < n) (hk : k < 11) : gC G z0 l yX0_numberOfOne wsX0_numberOfOne 1 23 [.ref b, .int (nI i), .int (nI k)] h (fun o h' => o = some (.int (nOne n ad pa (os i) (pa i) (ad i) k)) ∧ h' = h) 0 0 := by
  have hk9 : k = 0 ∨ k = 1 ∨ k = 2 ∨ k = 3 ∨ k = 4 ∨ k = 5 ∨ k = 6 ∨ k = 7 ∨ k = 8 ∨ k = 9 ∨ k = 10 := by omega
  obtain ⟨hb, f, hva, hf⟩ := id hB
  have hO1 := hO i hi
  have hJ := qOf_J hO1.1
  rcases hk9 with rfl | rfl | rfl | rfl | rfl | rfl | rfl | rfl | rfl | rfl | rfl
  · refine gC_of (cc := cX0_numberOfOne) (nL := 4) (ret := (some .int)) (by decide) rfl (Nat.le_of_ble_eq_true rfl) ?_
    intro X F E _
    change gF G z0 X cX0_numberOfOne 4 RX0 wsX0_numberOfOne (some .int) "numberOfOne" 1 23 _ _ at F
    show gV G z0 X 0 0 h 0 [(0, .ref b), (1, .int (nI i)), (2, .int (nI 0))] []
    obtain ⟨ti, ai, bi, hvi, hfai, hfbi, hTi, x3i, x4i, x5i, x6i, hti⟩ := (hVs i hi).obj
    refine v_aload_n (pc' := 1) F dX0_numberOfOne_0 rfl (j := 0) rfl rfl ?_
    refine v_getf (pc' := 4) (v := .ref va) F k_X0_numberOfOne_0 hb 0 (by decide) m_X0_numberOfOne_f11 rfl dX0_numberOfOne_1 rfl ?_
    refine v_iload_n (pc' := 5) F dX0_numberOfOne_4 rfl (j := 1) rfl rfl ?_
    refine w_vald (pc' := 6) (v := some (ad i)) F hva (by omega) (by omega) (hf i (by omega)) dX0_numberOfOne_5 rfl ?_
    refine v_astore_n (pc' := 7) (i := 3) (L' := [(3, .ref (ad i)), (0, .ref b), (1, .int (nI i)), (2, .int (nI 0))]) F dX0_numberOfOne_6 rfl (by decide) rfl rfl ?_
    refine v_iload_n (pc' := 8) F dX0_numberOfOne_7 rfl (j := 3) rfl rfl ?_
    refine v_tableIn (tgt := 68) (off := 60) F dX0_numberOfOne_8 (by decide) (by decide) rfl (by decide) ?_
    refine v_aload_n (pc' := 69) F dX0_numberOfOne_68 rfl (j := 1) rfl rfl ?_
    refine v_aload_n (pc' := 70) F dX0_numberOfOne_69 rfl (j := 0) rfl rfl ?_
    refine v_getf (pc' := 73) (v := va_rf (pa i)) F k_X0_numberOfOne_5 hvi 0 (by decide) m_X0_numberOfOne_f44 rfl dX0_numberOfOne_70 rfl ?_
    refine v_callV (pc' := 76) (rt := (some .int)) (mcc := 0) (msc := 0) (As := [va_rf (pa i)]) (st := []) F (fun l => c_X0_indexOf G z0 l (r := pa i) hn hB) gX0_numberOfOne_X0_indexOf rfl hv_X0_indexOf (by decide) (by decide) hb rfl rfl rfl (Nat.le_of_ble_eq_true rfl) (by omega) (by omega) dX0_numberOfOne_73 rfl (fun v1 h hq => ?_)
    obtain ⟨rfl, rfl⟩ := hq
    exact v_iret F E (by omega) (by omega)  dX0_numberOfOne_76 ⟨rfl, rfl⟩
  · refine gC_of (cc := cX0_numberOfOne) (nL := 4) (ret := (some .int)) (by decide) rfl (Nat.le_of_ble_eq_true rfl) ?_
    intro X F E _
    change gF G z0 X cX0_numberOfOne 4 RX0 wsX0_numberOfOne (some .int) "numberOfOne" 1 23 _ _ at F
    show gV G z0 X 0 0 h 0 [(0, .ref b), (1, .int (nI i)), (2, .int (nI 1))] []
    obtain ⟨ti, ai, bi, hvi, hfai, hfbi, hTi, x3i, x4i, x5i, x6i, hti⟩ := (hVs i hi).obj
    refine v_aload_n (pc' := 1) F dX0_numberOfOne_0 rfl (j := 0) rfl rfl ?_
    refine v_getf (pc' := 4) (v := .ref va) F k_X0_numberOfOne_0 hb 0 (by decide) m_X0_numberOfOne_f11 rfl dX0_numberOfOne_1 rfl ?_
    refine v_iload_n (pc' := 5) F dX0_numberOfOne_4 rfl (j := 1) rfl rfl ?_
    refine w_vald (pc' := 6) (v := some (ad i)) F hva (by omega) (by omega) (hf i (by omega)) dX0_numberOfOne_5 rfl ?_
    refine v_astore_n (pc' := 7) (i := 3) (L' := [(3, .ref (ad i)), (0, .ref b), (1, .int (nI i)), (2, .int (nI 1))]) F dX0_numberOfOne_6 rfl (by decide) rfl rfl ?_
    refine v_iload_n (pc' := 8) F dX0_numberOfOne_7 rfl (j := 3) rfl rfl ?_
    refine v_tableIn (tgt := 77) (off := 69) F dX0_numberOfOne_8 (by decide) (by decide) rfl (by decide) ?_
    refine v_aload_n (pc' := 78) F dX0_numberOfOne_77 rfl (j := 0) rfl rfl ?_
    refine v_getf (pc' := 81) (v := .int (hdP (os i))) F k_X0_numberOfOne_5 hvi 1 (by decide) m_X0_numberOfOne_f73 rfl dX0_numberOfOne_78 rfl ?_
    exact v_iret F E (by omega) (by omega)  dX0_numberOfOne_81 ⟨rfl, rfl⟩
  · refine gC_of (cc := cX0_numberOfOne) (nL := 4) (ret := (some .int)) (by decide) rfl (Nat.le_of_ble_eq_true rfl) ?_
    intro X F E _
    change gF G z0 X cX0_numberOfOne 4 RX0 wsX0_numberOfOne (some .int) "numberOfOne" 1 23 _ _ at F
    show gV G z0 X 0 0 h 0 [(0, .ref b), (1, .int (nI i)), (2, .int (nI 2))] []
    obtain ⟨ti, ai, bi, hvi, hfai, hfbi, hTi, x3i, x4i, x5i, x6i, hti⟩ := (hVs i hi).obj
    refine v_aload_n (pc' := 1) F dX0_numberOfOne_0 rfl (j := 0) rfl rfl ?_
    refine v_getf (pc' := 4) (v := .ref va) F k_X0_numberOfOne_0 hb 0 (by decide) m_X0_numberOfOne_f11 rfl dX0_numberOfOne_1 rfl ?_
    refine v_iload_n (pc' := 5) F dX0_numberOfOne_4 rfl (j := 1) rfl rfl ?_
    refine w_vald (pc' := 6) (v := some (ad i)) F hva (by omega) (by omega) (hf i (by omega)) dX0_numberOfOne_5 rfl ?_
    refine v_astore_n (pc' := 7) (i := 3) (L' := [(3, .ref (ad i)), (0, .ref b), (1, .int (nI i)), (2, .int (nI 2))]) F dX0_numberOfOne_6 rfl (by decide) rfl rfl ?_
    refine v_iload_n (pc' := 8) F dX0_numberOfOne_7 rfl (j := 3) rfl rfl ?_
    refine v_tableIn (tgt := 82) (off := 74) F dX0_numberOfOne_8 (by decide) (by decide) rfl (by decide) ?_
    refine v_aload_n (pc' := 83) F dX0_numberOfOne_82 rfl (j := 0) rfl rfl ?_
    refine v_getf (pc' := 86) (v := .int (nI ((os i).length))) F k_X0_numberOfOne_5 hvi 2 (by decide) m_X0_numberOfOne_f76 rfl dX0_numberOfOne_83 rfl ?_
    exact v_iret F E (by omega) (by omega)  dX0_numberOfOne_86 ⟨rfl, rfl⟩
  · refine gC_of (cc := cX0_numberOfOne) (nL := 4) (ret := (some .int)) (by decide) rfl (Nat.le_of_ble_eq_true rfl) ?_
    intro X F E _
    change gF G z0 X cX0_numberOfOne 4 RX0 wsX0_numberOfOne (some .int) "numberOfOne" 1 23 _ _ at F
    show gV G z0 X 0 0 h 0 [(0, .ref b), (1, .int (nI i)), (2, .int (nI 3))] []
    obtain ⟨ti, ai, bi, hvi, hfai, hfbi, hTi, x3i, x4i, x5i, x6i, hti⟩ := (hVs i hi).obj
    refine v_aload_n (pc' := 1) F dX0_numberOfOne_0 rfl (j := 0) rfl rfl ?_
    refine v_getf (pc' := 4) (v := .ref va) F k_X0_numberOfOne_0 hb 0 (by decide) m_X0_numberOfOne_f11 rfl dX0_numberOfOne_1 rfl ?_
    refine v_iload_n (pc' := 5) F dX0_numberOfOne_4 rfl (j := 1) rfl rfl ?_
    refine w_vald (pc' := 6) (v := some (ad i)) F hva (by omega) (by omega) (hf i (by omega)) dX0_numberOfOne_5 rfl ?_
    refine v_astore_n (pc' := 7) (i := 3) (L' := [(3, .ref (ad i)), (0, .ref b), (1, .int (nI i)), (2, .int (nI 3))]) F dX0_numberOfOne_6 rfl (by decide) rfl rfl ?_
    refine v_iload_n (pc' := 8) F dX0_numberOfOne_7 rfl (j := 3) rfl rfl ?_
    refine v_tableIn (tgt := 87) (off := 79) F dX0_numberOfOne_8 (by decide) (by decide) rfl (by decide) ?_
    refine v_aload_n (pc' := 88) F dX0_numberOfOne_87 rfl (j := 0) rfl rfl ?_
    refine v_callV (pc' := 91) (rt := (some .int)) (mcc := 0) (msc := 0) (As := []) (st := []) F (fun l => c_X5_length G z0 l (hVs i hi).choose_spec) gX0_numberOfOne_X5_length rfl hv_X5_length (by decide) (by decide) hvi rfl rfl rfl (Nat.le_of_ble_eq_true rfl) (by omega) (by omega) dX0_numberOfOne_88 rfl (fun v1 h hq => ?_)
    obtain ⟨rfl, rfl⟩ := hq
    exact v_iret F E (by omega) (by omega)  dX0_numberOfOne_91 ⟨rfl, rfl⟩
  · refine gC_of (cc := cX0_numberOfOne) (nL := 4) (ret := (some .int)) (by decide) rfl (Nat.le_of_ble_eq_true rfl) ?_
    intro X F E _
    change gF G z0 X cX0_numberOfOne 4 RX0 wsX0_numberOfOne (some .int) "numberOfOne" 1 23 _ _ at F
    show gV G z0 X 0 0 h 0 [(0, .ref b), (1, .int (nI i)), (2, .int (nI 4))] []
    obtain ⟨ti, ai, bi, hvi, hfai, hfbi, hTi, x3i, x4i, x5i, x6i, hti⟩ := (hVs i hi).obj
    refine v_aload_n (pc' := 1) F dX0_numberOfOne_0 rfl (j := 0) rfl rfl ?_
    refine v_getf (pc' := 4) (v := .ref va) F k_X0_numberOfOne_0 hb 0 (by decide) m_X0_numberOfOne_f11 rfl dX0_numberOfOne_1 rfl ?_
    refine v_iload_n (pc' := 5) F dX0_numberOfOne_4 rfl (j := 1) rfl rfl ?_
    refine w_vald (pc' := 6) (v := some (ad i)) F hva (by omega) (by omega) (hf i (by omega)) dX0_numberOfOne_5 rfl ?_
    refine v_astore_n (pc' := 7) (i := 3) (L' := [(3, .ref (ad i)), (0, .ref b), (1, .int (nI i)), (2, .int (nI 4))]) F dX0_numberOfOne_6 rfl (by decide) rfl rfl ?_
    refine v_iload_n (pc' := 8) F dX0_numberOfOne_7 rfl (j := 3) rfl rfl ?_
    refine v_tableIn (tgt := 92) (off := 84) F dX0_numberOfOne_8 (by decide) (by decide) rfl (by decide) ?_
    refine v_aload_n (pc' := 93) F dX0_numberOfOne_92 rfl (j := 0) rfl rfl ?_
    refine v_getf (pc' := 96) (v := .int (nI ((qOf (os i)).1.2.2.1))) F k_X0_numberOfOne_5 hvi 6 (by decide) m_X0_numberOfOne_f79 rfl dX0_numberOfOne_93 rfl ?_
    exact v_iret F E (by omega) (by omega)  dX0_numberOfOne_96 ⟨rfl, rfl⟩
  · refine gC_of (cc := cX0_numberOfOne) (nL := 4) (ret := (some .int)) (by decide) rfl (Nat.le_of_ble_eq_true rfl) ?_
    intro X F E _
    change gF G z0 X cX0_numberOfOne 4 RX0 wsX0_numberOfOne (some .int) "numberOfOne" 1 23 _ _ at F
    show gV G z0 X 0 0 h 0 [(0, .ref b), (1, .int (nI i)), (2, .int (nI 5))] []
    obtain ⟨ti, ai, bi, hvi, hfai, hfbi, hTi, x3i, x4i, x5i, x6i, hti⟩ := (hVs i hi).obj
    refine v_aload_n (pc' := 1) F dX0_numberOfOne_0 rfl (j := 0) rfl rfl ?_
    refine v_getf (pc' := 4) (v := .ref va) F k_X0_numberOfOne_0 hb 0 (by decide) m_X0_numberOfOne_f11 rfl dX0_numberOfOne_1 rfl ?_
    refine v_iload_n (pc' := 5) F dX0_numberOfOne_4 rfl (j := 1) rfl rfl ?_
    refine w_vald (pc' := 6) (v := some (ad i)) F hva (by omega) (by omega) (hf i (by omega)) dX0_numberOfOne_5 rfl ?_
    refine v_astore_n (pc' := 7) (i := 3) (L' := [(3, .ref (ad i)), (0, .ref b), (1, .int (nI i)), (2, .int (nI 5))]) F dX0_numberOfOne_6 rfl (by decide) rfl rfl ?_
    refine v_iload_n (pc' := 8) F dX0_numberOfOne_7 rfl (j := 3) rfl rfl ?_
    refine v_tableIn (tgt := 97) (off := 89) F dX0_numberOfOne_8 (by decide) (by decide) rfl (by decide) ?_
    refine v_aload_n (pc' := 98) F dX0_numberOfOne_97 rfl (j := 0) rfl rfl ?_
    refine v_getf (pc' := 101) (v := .int (nI ((qOf (os i)).1.2.2.2.1))) F k_X0_numberOfOne_5 hvi 7 (by decide) m_X0_numberOfOne_f82 rfl dX0_numberOfOne_98 rfl ?_
    exact v_iret F E (by omega) (by omega)  dX0_numberOfOne_101 ⟨rfl, rfl⟩
  · refine gC_of (cc := cX0_numberOfOne) (nL := 4) (ret := (some .int)) (by decide) rfl (Nat.le_of_ble_eq_true rfl) ?_
    intro X F E _
    change gF G z0 X cX0_numberOfOne 4 RX0 wsX0_numberOfOne (some .int) "numberOfOne" 1 23 _ _ at F
    show gV G z0 X 0 0 h 0 [(0, .ref b), (1, .int (nI i)), (2, .int (nI 6))] []
    obtain ⟨ti, ai, bi, hvi, hfai, hfbi, hTi, x3i, x4i, x5i, x6i, hti⟩ := (hVs i hi).obj
    refine v_aload_n (pc' := 1) F dX0_numberOfOne_0 rfl (j := 0) rfl rfl ?_
    refine v_getf (pc' := 4) (v := .ref va) F k_X0_numberOfOne_0 hb 0 (by decide) m_X0_numberOfOne_f11 rfl dX0_numberOfOne_1 rfl ?_
    refine v_iload_n (pc' := 5) F dX0_numberOfOne_4 rfl (j := 1) rfl rfl ?_
    refine w_vald (pc' := 6) (v := some (ad i)) F hva (by omega) (by omega) (hf i (by omega)) dX0_numberOfOne_5 rfl ?_
    refine v_astore_n (pc' := 7) (i := 3) (L' := [(3, .ref (ad i)), (0, .ref b), (1, .int (nI i)), (2, .int (nI 6))]) F dX0_numberOfOne_6 rfl (by decide) rfl rfl ?_
    refine v_iload_n (pc' := 8) F dX0_numberOfOne_7 rfl (j := 3) rfl rfl ?_
    refine v_tableIn (tgt := 102) (off := 94) F dX0_numberOfOne_8 (by decide) (by decide) rfl (by decide) ?_
    refine v_aload_n (pc' := 103) F dX0_numberOfOne_102 rfl (j := 0) rfl rfl ?_
    refine v_getf (pc' := 106) (v := .ref ti) F k_X0_numberOfOne_5 hvi 3 (by decide) m_X0_numberOfOne_f85 rfl dX0_numberOfOne_103 rfl ?_
    refine v_getf (pc' := 109) (v := .int (nI ((qOf (os i)).1.2.2.2.2.1))) F k_X0_numberOfOne_4 hti 0 (by decide) m_X0_numberOfOne_f89 rfl dX0_numberOfOne_106 rfl ?_
    exact v_iret F E (by omega) (by omega)  dX0_numberOfOne_109 ⟨rfl, rfl⟩
  · refine gC_of (cc := cX0_numberOfOne) (nL := 4) (ret := (some .int)) (by decide) rfl (Nat.le_of_ble_eq_true rfl) ?_
    intro X F E _
    change gF G z0 X cX0_numberOfOne 4 RX0 wsX0_numberOfOne (some .int) "numberOfOne" 1 23 _ _ at F
    show gV G z0 X 0 0 h 0 [(0, .ref b), (1, .int (nI i)), (2, .int (nI 7))] []
    obtain ⟨ti, ai, bi, hvi, hfai, hfbi, hTi, x3i, x4i, x5i, x6i, hti⟩ := (hVs i hi).obj
    refine v_aload_n (pc' := 1) F dX0_numberOfOne_0 rfl (j := 0) rfl rfl ?_
    refine v_getf (pc' := 4) (v := .ref va) F k_X0_numberOfOne_0 hb 0 (by decide) m_X0_numberOfOne_f11 rfl dX0_numberOfOne_1 rfl ?_
    refine v_iload_n (pc' := 5) F dX0_numberOfOne_4 rfl (j := 1) rfl rfl ?_
    refine w_vald (pc' := 6) (v := some (ad i)) F hva (by omega) (by omega) (hf i (by omega)) dX0_numberOfOne_5 rfl ?_
    refine v_astore_n (pc' := 7) (i := 3) (L' := [(3, .ref (ad i)), (0, .ref b), (1, .int (nI i)), (2, .int (nI 7))]) F dX0_numberOfOne_6 rfl (by decide) rfl rfl ?_
    refine v_iload_n (pc' := 8) F dX0_numberOfOne_7 rfl (j := 3) rfl rfl ?_
    refine v_tableIn (tgt := 110) (off := 102) F dX0_numberOfOne_8 (by decide) (by decide) rfl (by decide) ?_
    refine v_aload_n (pc' := 111) F dX0_numberOfOne_110 rfl (j := 0) rfl rfl ?_
    refine v_getf (pc' := 114) (v := .ref ti) F k_X0_numberOfOne_5 hvi 3 (by decide) m_X0_numberOfOne_f85 rfl dX0_numberOfOne_111 rfl ?_
    refine v_getf (pc' := 117) (v := .int (nI ((qOf (os i)).1.2.2.2.2.2.1))) F k_X0_numberOfOne_4 hti 1 (by decide) m_X0_numberOfOne_f94 rfl dX0_numberOfOne_114 rfl ?_
    exact v_iret F E (by omega) (by omega)  dX0_numberOfOne_117 ⟨rfl, rfl⟩
  · refine gC_of (cc := cX0_numberOfOne) (nL := 4) (ret := (some .int)) (by decide) rfl (Nat.le_of_ble_eq_true rfl) ?_
    intro X F E _
    change gF G z0 X cX0_numberOfOne 4 RX0 wsX0_numberOfOne (some .int) "numberOfOne" 1 23 _ _ at F
    show gV G z0 X 0 0 h 0 [(0, .ref b), (1, .int (nI i)), (2, .int (nI 8))] []
    obtain ⟨ti, ai, bi, hvi, hfai, hfbi, hTi, x3i, x4i, x5i, x6i, hti⟩ := (hVs i hi).obj
    refine v_aload_n (pc' := 1) F dX0_numberOfOne_0 rfl (j := 0) rfl rfl ?_
    refine v_getf (pc' := 4) (v := .ref va) F k_X0_numberOfOne_0 hb 0 (by decide) m_X0_numberOfOne_f11 rfl dX0_numberOfOne_1 rfl ?_
    refine v_iload_n (pc' := 5) F dX0_numberOfOne_4 rfl (j := 1) rfl rfl ?_
    refine w_vald (pc' := 6) (v := some (ad i)) F hva (by omega) (by omega) (hf i (by omega)) dX0_numberOfOne_5 rfl ?_
    refine v_astore_n (pc' := 7) (i := 3) (L' := [(3, .ref (ad i)), (0, .ref b), (1, .int (nI i)), (2, .int (nI 8))]) F dX0_numberOfOne_6 rfl (by decide) rfl rfl ?_
    refine v_iload_n (pc' := 8) F dX0_numberOfOne_7 rfl (j := 3) rfl rfl ?_
    refine v_tableIn (tgt := 118) (off := 110) F dX0_numberOfOne_8 (by decide) (by decide) rfl (by decide) ?_
    refine v_aload_n (pc' := 119) F dX0_numberOfOne_118 rfl (j := 0) rfl rfl ?_
    refine v_getf (pc' := 122) (v := .int (nI ((qOf (os i)).2))) F k_X0_numberOfOne_5 hvi 8 (by decide) m_X0_numberOfOne_f97 rfl dX0_numberOfOne_119 rfl ?_
    exact v_iret F E (by omega) (by omega)  dX0_numberOfOne_122 ⟨rfl, rfl⟩
  · refine gC_of (cc := cX0_numberOfOne) (nL := 4) (ret := (some .int)) (by decide) rfl (Nat.le_of_ble_eq_true rfl) ?_
    intro X F E _
    change gF G z0 X cX0_numberOfOne 4 RX0 wsX0_numberOfOne (some .int) "numberOfOne" 1 23 _ _ at F
    show gV G z0 X 0 0 h 0 [(0, .ref b), (1, .int (nI i)), (2, .int (nI 9))] []
    obtain ⟨ti, ai, bi, hvi, hfai, hfbi, hTi, x3i, x4i, x5i, x6i, hti⟩ := (hVs i hi).obj
    refine v_aload_n (pc' := 1) F dX0_numberOfOne_0 rfl (j := 0) rfl rfl ?_
    refine v_getf (pc' := 4) (v := .ref va) F k_X0_numberOfOne_0 hb 0 (by decide) m_X0_numberOfOne_f11 rfl dX0_numberOfOne_1 rfl ?_
    refine v_iload_n (pc' := 5) F dX0_numberOfOne_4 rfl (j := 1) rfl rfl ?_
    refine w_vald (pc' := 6) (v := some (ad i)) F hva (by omega) (by omega) (hf i (by omega)) dX0_numberOfOne_5 rfl ?_
    refine v_astore_n (pc' := 7) (i := 3) (L' := [(3, .ref (ad i)), (0, .ref b), (1, .int (nI i)), (2, .int (nI 9))]) F dX0_numberOfOne_6 rfl (by decide) rfl rfl ?_
    refine v_iload_n (pc' := 8) F dX0_numberOfOne_7 rfl (j := 3) rfl rfl ?_
    refine v_tableIn (tgt := 123) (off := 115) F dX0_numberOfOne_8 (by decide) (by decide) rfl (by decide) ?_
    refine v_aload_n (pc' := 124) F dX0_numberOfOne_123 rfl (j := 1) rfl rfl ?_
    refine v_aload_n (pc' := 125) F dX0_numberOfOne_124 rfl (j := 0) rfl rfl ?_
    refine v_callV (pc' := 128) (rt := (some .int)) (mcc := 0) (msc := 0) (As := [.ref (ad i)]) (st := []) F (fun l => c_X0_childrenOf G z0 l (r := some (ad i)) hn hB hVs hO) gX0_numberOfOne_X0_childrenOf rfl hv_X0_childrenOf (by decide) (by decide) hb rfl rfl rfl (Nat.le_of_ble_eq_true rfl) (by omega) (by omega) dX0_numberOfOne_125 rfl (fun v1 h hq => ?_)
    obtain ⟨rfl, rfl⟩ := hq
    exact v_iret F E (by omega) (by omega)  dX0_numberOfOne_128 ⟨rfl, rfl⟩
  · refine gC_of (cc := cX0_numberOfOne) (nL := 4) (ret := (some .int)) (by decide) rfl (Nat.le_of_ble_eq_true rfl) ?_
    intro X F E _
    change gF G z0 X cX0_numberOfOne 4 RX0 wsX0_numberOfOne (some .int) "numberOfOne" 1 23 _ _ at F
    show gV G z0 X 0 0 h 0 [(0, .ref b), (1, .int (nI i)), (2, .int (nI 10))] []
    obtain ⟨ti, ai, bi, hvi, hfai, hfbi, hTi, x3i, x4i, x5i, x6i, hti⟩ := (hVs i hi).obj
    refine v_aload_n (pc' := 1) F dX0_numberOfOne_0 rfl (j := 0) rfl rfl ?_
    refine v_getf (pc' := 4) (v := .ref va) F k_X0_numberOfOne_0 hb 0 (by decide) m_X0_numberOfOne_f11 rfl dX0_numberOfOne_1 rfl ?_
    refine v_iload_n (pc' := 5) F dX0_numberOfOne_4 rfl (j := 1) rfl rfl ?_
    refine w_vald (pc' := 6) (v := some (ad i)) F hva (by omega) (by omega) (hf i (by omega)) dX0_numberOfOne_5 rfl ?_
    refine v_astore_n (pc' := 7) (i := 3) (L' := [(3, .ref (ad i)), (0, .ref b), (1, .int (nI i)), (2, .int (nI 10))]) F dX0_numberOfOne_6 rfl (by decide) rfl rfl ?_
    refine v_iload_n (pc' := 8) F dX0_numberOfOne_7 rfl (j := 3) rfl rfl ?_
    refine v_tableIn (tgt := 129) (off := 121) F dX0_numberOfOne_8 (by decide) (by decide) rfl (by decide) ?_
    refine v_aload_n (pc' := 130) F dX0_numberOfOne_129 rfl (j := 0) rfl rfl ?_
    refine v_getf (pc' := 133) (v := va_rf ai) F k_X0_numberOfOne_5 hvi 4 (by decide) m_X0_numberOfOne_f103 rfl dX0_numberOfOne_130 rfl ?_
    refine v_callS (pc' := 136) (rt := (some .int)) (mcc := 0) (msc := 0) (As := [va_rf ai]) (st := []) F (fun l => c_X1_sizeOf G z0 l hfai (by have := hJ.fb; omega)) gX0_numberOfOne_X1_sizeOf rfl hd_X1_sizeOf (by decide) (by decide) rfl rfl (Nat.le_of_ble_eq_true rfl) (by omega) (by omega) dX0_numberOfOne_133 rfl (fun v1 h hq => ?_)
    obtain ⟨rfl, rfl⟩ := hq
    exact v_iret F E (by omega) (by omega)  dX0_numberOfOne_136 ⟨rfl, rfl⟩
