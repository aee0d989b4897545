theorem k_X0_copyFrom_0 : gCl wsX0_copyFrom 0 RX0 TX0 4 := ⟨by decide +kernel, rfl⟩
theorem m_X0_copyFrom_f17 : Cond.fieldLink RX0 17 "SteadyQueues$Book" "count" "I" ∈ wsX0_copyFrom := by decide +kernel
theorem m_X0_copyFrom_f21 : Cond.fieldLink RX0 21 "SteadyQueues$Book" "pace" "I" ∈ wsX0_copyFrom := by decide +kernel
theorem m_X0_copyFrom_f24 : Cond.fieldLink RX0 24 "SteadyQueues$Book" "dropped" "I" ∈ wsX0_copyFrom := by decide +kernel
theorem m_X0_copyFrom_f11 : Cond.fieldLink RX0 11 "SteadyQueues$Book" "versions" "[LSteadyQueues$Version;" ∈ wsX0_copyFrom := by decide +kernel
set_option maxHeartbeats 4000000 in
set_option maxRecDepth 100000 in
theorem lp_X0_copyFrom {G : gG} {z0 : Nat} {X : gX} {post : Option Value → gH → Prop} {mc ms cells slots m i b va n pc dr o vo n2 pc2 dr2 : Nat} {h : gH} {ad2 : Nat → Nat} {f fo : Nat → Option Nat} (F : gF G z0 X cX0_copyFrom 3 RX0 wsX0_copyFrom none "copyFrom" 0 0 mc ms) (E : gE G z0 X post mc ms) (hcc : cells ≤ mc) (hss : slots ≤ ms) (hn2 : n2 ≤ 64) (hbo : b ≠ o) (hvv : va ≠ vo) (hb : h b = some (.inr (0, [.ref va, .int (nI n), .int (nI pc), .int (nI dr)]))) (hva : h va = some (oV G 64 f)) (ho : h o = some (.inr (0, [.ref vo, .int (nI n2), .int (nI pc2), .int (nI dr2)]))) (hvo : h vo = some (oV G 64 fo)) (hfo : ∀ j, j < n2 → fo j = some (ad2 j)) (hk : ∀ j, j < n2 → ∃ fs, h (ad2 j) = some (.inr (5, fs))) (hf : ∀ j, j < i → f j = some (ad2 j)) (hm : n2 = i + m) (hp : ∀ h', isBk G h' b va n2 pc2 dr2 ad2 → gfr [b, va] h h' → post none h') : gV G z0 X cells slots h 2 [(2, .int (nI i)), (1, .ref o), (0, .ref b)] [] := by
  induction m generalizing i h f with
  | zero =>
    have hin : i = n2 := by omega
    subst hin
    refine v_iload_n (pc' := 3) F dX0_copyFrom_2 rfl (j := 0) rfl rfl ?_
    refine v_aload_n (pc' := 4) F dX0_copyFrom_3 rfl (j := 1) rfl rfl ?_
    refine v_getf (pc' := 7) (v := .int (nI i)) F k_X0_copyFrom_0 ho 1 (by decide) m_X0_copyFrom_f17 rfl dX0_copyFrom_4 rfl ?_
    refine w_icmp_ge (tgt := 28) (pc' := 10) F (by omega) (by omega) dX0_copyFrom_7 (by decide) rfl (fun _ => ?_) (fun c0 => absurd c0 (by omega))
    refine v_aload_n (pc' := 29) F dX0_copyFrom_28 rfl (j := 2) rfl rfl ?_
    refine v_aload_n (pc' := 30) F dX0_copyFrom_29 rfl (j := 1) rfl rfl ?_
    refine v_getf (pc' := 33) (v := .int (nI i)) F k_X0_copyFrom_0 ho 1 (by decide) m_X0_copyFrom_f17 rfl dX0_copyFrom_30 rfl ?_
    refine w_putf (pc' := 36) F k_X0_copyFrom_0 tyX0_ok nmX0 hb 1 (by decide) m_X0_copyFrom_f17 rfl  rfl rfl (show 1 < 4 by decide) [.ref va, .int (nI i), .int (nI pc), .int (nI dr)] rfl dX0_copyFrom_33 rfl (fun h1 a2 f3 => ?_)
    refine v_aload_n (pc' := 37) F dX0_copyFrom_36 rfl (j := 2) rfl rfl ?_
    refine v_aload_n (pc' := 38) F dX0_copyFrom_37 rfl (j := 1) rfl rfl ?_
    have g4 := f3 _ _ (gnc hbo.symm gn0) ho
    refine v_getf (pc' := 41) (v := .int (nI pc2)) F k_X0_copyFrom_0 g4 2 (by decide) m_X0_copyFrom_f21 rfl dX0_copyFrom_38 rfl ?_
    refine w_putf (pc' := 44) F k_X0_copyFrom_0 tyX0_ok nmX0 a2 2 (by decide) m_X0_copyFrom_f21 rfl  rfl rfl (show 2 < 4 by decide) [.ref va, .int (nI i), .int (nI pc2), .int (nI dr)] rfl dX0_copyFrom_41 rfl (fun h5 a6 f7 => ?_)
    refine v_aload_n (pc' := 45) F dX0_copyFrom_44 rfl (j := 2) rfl rfl ?_
    refine v_aload_n (pc' := 46) F dX0_copyFrom_45 rfl (j := 1) rfl rfl ?_
    have g8 := f7 _ _ (gnc hbo.symm gn0) g4
    refine v_getf (pc' := 49) (v := .int (nI dr2)) F k_X0_copyFrom_0 g8 3 (by decide) m_X0_copyFrom_f24 rfl dX0_copyFrom_46 rfl ?_
    refine w_putf (pc' := 52) F k_X0_copyFrom_0 tyX0_ok nmX0 a6 3 (by decide) m_X0_copyFrom_f24 rfl  rfl rfl (show 3 < 4 by decide) [.ref va, .int (nI i), .int (nI pc2), .int (nI dr2)] rfl dX0_copyFrom_49 rfl (fun h9 a10 f11 => ?_)
    have fr12 : gfr [b, va] h h9 := (gfr.t (gfr.mono f3 (by intro q9 z9 m9; apply z9; simp only [List.mem_cons, List.not_mem_nil, or_false] at m9 ⊢; omega)) (gfr.t (gfr.mono f7 (by intro q9 z9 m9; apply z9; simp only [List.mem_cons, List.not_mem_nil, or_false] at m9 ⊢; omega)) (gfr.mono f11 (by intro q9 z9 m9; apply z9; simp only [List.mem_cons, List.not_mem_nil, or_false] at m9 ⊢; omega))))
    have g13 := f3 _ _ (gnc ((g_neA hb hva).symm) gn0) hva
    have g14 := f7 _ _ (gnc ((g_neA hb hva).symm) gn0) g13
    have g15 := f11 _ _ (gnc ((g_neA hb hva).symm) gn0) g14
    exact v_vret F E (by omega) (by omega)  dX0_copyFrom_52 (hp _ ⟨a10, f, g15, hf⟩ fr12)
  | succ m ih =>
    obtain ⟨fsk, hk5⟩ := hk i (by omega)
    refine v_iload_n (pc' := 3) F dX0_copyFrom_2 rfl (j := 0) rfl rfl ?_
    refine v_aload_n (pc' := 4) F dX0_copyFrom_3 rfl (j := 1) rfl rfl ?_
    refine v_getf (pc' := 7) (v := .int (nI n2)) F k_X0_copyFrom_0 ho 1 (by decide) m_X0_copyFrom_f17 rfl dX0_copyFrom_4 rfl ?_
    refine w_icmp_ge (tgt := 28) (pc' := 10) F (by omega) (by omega) dX0_copyFrom_7 (by decide) rfl (fun c0 => absurd c0 (by omega)) (fun _ => ?_)
    refine v_aload_n (pc' := 11) F dX0_copyFrom_10 rfl (j := 2) rfl rfl ?_
    refine v_getf (pc' := 14) (v := .ref va) F k_X0_copyFrom_0 hb 0 (by decide) m_X0_copyFrom_f11 rfl dX0_copyFrom_11 rfl ?_
    refine v_iload_n (pc' := 15) F dX0_copyFrom_14 rfl (j := 0) rfl rfl ?_
    refine v_aload_n (pc' := 16) F dX0_copyFrom_15 rfl (j := 1) rfl rfl ?_
    refine v_getf (pc' := 19) (v := .ref vo) F k_X0_copyFrom_0 ho 0 (by decide) m_X0_copyFrom_f11 rfl dX0_copyFrom_16 rfl ?_
    refine v_iload_n (pc' := 20) F dX0_copyFrom_19 rfl (j := 0) rfl rfl ?_
    refine w_vald (pc' := 21) (v := some (ad2 i)) F hvo (by omega) (by omega) (hfo i (by omega)) dX0_copyFrom_20 rfl ?_
    refine w_vast (pc' := 22) F hva hk5 (by omega) (by omega) dX0_copyFrom_21 rfl (fun h1 a2 f3 => ?_)
    refine v_iinc (pc' := 25) (j := 0) (x := nI i) (v := nI (i + 1)) (L' := [(2, .int (nI (i + 1))), (1, .ref o), (0, .ref b)]) F dX0_copyFrom_22 rfl (nI_add i 1) (by decide) rfl rfl ?_
    refine v_goto (tgt := 2) F dX0_copyFrom_25 (by decide) ?_
    have g4 := f3 _ _ (gnc (g_neA hb hva) gn0) hb
    have g5 := f3 _ _ (gnc (g_neA ho hva) gn0) ho
    have g6 := f3 _ _ (gnc hvv.symm gn0) hvo
    have fr7 : gfr [b, va] h h1 := (gfr.mono f3 (by intro q9 z9 m9; apply z9; simp only [List.mem_cons, List.not_mem_nil, or_false] at m9 ⊢; omega))
    refine v_sub (L' := [(2, .int (nI (i + 1))), (1, .ref o), (0, .ref b)]) [0, 1, 2] rfl ?_
    exact ih (i := i + 1) g4 a2 g5 g6 (fun j hj => by obtain ⟨fsj, hj5⟩ := hk j hj; exact ⟨fsj, f3 _ _ (gnc (g_neA hj5 hva) gn0) hj5⟩) (fun j hj => by unfold va_up; by_cases z : j = i; (rw [if_pos z, z]); (rw [if_neg z]; exact hf j (by omega))) (by omega) (fun h' q1 q2 => hp h' q1 (gfr.t fr7 q2))
set_option maxHeartbeats 4000000 in
set_option maxRecDepth 100000 in
theorem c_X0_copyFrom (G : gG) (z0 : Nat) (l : Launch) {h : gH} {b va n pc dr o vo n2 pc2 dr2 : Nat} {ad2 : Nat → Nat} {f : Nat → Option Nat} (hn2 : n2 ≤ 64) (hbo : b ≠ o) (hvv : va ≠ vo) (hb : h b = some (.inr (0, [.ref va, .int (nI n), .int (nI pc), .int (nI dr)]))) (hva : h va = some (oV G 64 f)) (hO : isBk G h o vo n2 pc2 dr2 ad2) (hk : ∀ j, j < n2 → ∃ fs, h (ad2 j) = some (.inr (5, fs))) : gC G z0 l yX0_copyFrom wsX0_copyFrom 0 0 [.ref b, .ref o] h (fun o9 h' => o9 = none ∧ isBk G h' b va n2 pc2 dr2 ad2 ∧ gfr [b, va] h h') 0 0 := by
  obtain ⟨ho, fo, hvo, hfo⟩ := id hO
  refine gC_of (cc := cX0_copyFrom) (nL := 3) (ret := none) (by decide) rfl (Nat.le_of_ble_eq_true rfl) ?_
  intro X F E _
  change gF G z0 X cX0_copyFrom 3 RX0 wsX0_copyFrom none "copyFrom" 0 0 _ _ at F
  show gV G z0 X 0 0 h 0 [(0, .ref b), (1, .ref o)] []
  refine v_iconst (pc' := 1) (v := nI 0) F dX0_copyFrom_0 (by decide) rfl ?_
  refine v_istore_n (pc' := 2) (i := 2) (L' := [(2, .int (nI 0)), (0, .ref b), (1, .ref o)]) F dX0_copyFrom_1 rfl (by decide) rfl rfl ?_
  refine v_sub (L' := [(2, .int (nI 0)), (1, .ref o), (0, .ref b)]) [0, 2, 1] rfl ?_
  exact lp_X0_copyFrom (i := 0) (m := n2) F E (Nat.le_refl _) (Nat.le_refl _) hn2 hbo hvv hb hva ho hvo hfo hk (fun j hj => by omega) (by omega) (fun h1 q1 q2 => ⟨rfl, q1, q2⟩)
theorem k_X0_remove_0 : gCl wsX0_remove 0 RX0 TX0 4 := ⟨by decide +kernel, rfl⟩
theorem m_X0_remove_f17 : Cond.fieldLink RX0 17 "SteadyQueues$Book" "count" "I" ∈ wsX0_remove := by decide +kernel
theorem m_X0_remove_f24 : Cond.fieldLink RX0 24 "SteadyQueues$Book" "dropped" "I" ∈ wsX0_remove := by decide +kernel
theorem m_X0_remove_f11 : Cond.fieldLink RX0 11 "SteadyQueues$Book" "versions" "[LSteadyQueues$Version;" ∈ wsX0_remove := by decide +kernel
set_option maxHeartbeats 4000000 in
set_option maxRecDepth 100000 in
theorem lp_X0_remove {G : gG} {z0 : Nat} {X : gX} {post : Option Value → gH → Prop} {mc ms cells slots m i k b va n pc dr : Nat} {h : gH} {ad : Nat → Nat} {f : Nat → Option Nat} (F : gF G z0 X cX0_remove 3 RX0 wsX0_remove none "remove" 0 0 mc ms) (E : gE G z0 X post mc ms) (hcc : cells ≤ mc) (hss : slots ≤ ms) (hn : n < 64) (hdr : dr < 65536) (hb : h b = some (.inr (0, [.ref va, .int (nI n), .int (nI pc), .int (nI dr)]))) (hva : h va = some (oV G 64 f)) (hk : ∀ j, j < n + 1 → ∃ fs, h (ad j) = some (.inr (5, fs))) (hf1 : ∀ j, j < k → f j = some (ad j)) (hf2 : ∀ j, k ≤ j → j < i → f j = some (ad (j + 1))) (hf3 : ∀ j, i ≤ j → j < n + 1 → f j = some (ad j)) (hki : k ≤ i) (hm : n = i + m) (hp : ∀ h', isBk G h' b va n pc (dr + 1) (fun j => if j < k then ad j else ad (j + 1)) → gfr [b, va] h h' → post none h') : gV G z0 X cells slots h 12 [(2, .int (nI i)), (1, .int (nI k)), (0, .ref b)] [] := by
  induction m generalizing i h f with
  | zero =>
    have hin : i = n := by omega
    subst hin
    refine v_iload_n (pc' := 13) F dX0_remove_12 rfl (j := 0) rfl rfl ?_
    refine v_aload_n (pc' := 14) F dX0_remove_13 rfl (j := 2) rfl rfl ?_
    refine v_getf (pc' := 17) (v := .int (nI i)) F k_X0_remove_0 hb 1 (by decide) m_X0_remove_f17 rfl dX0_remove_14 rfl ?_
    refine w_icmp_ge (tgt := 40) (pc' := 20) F (by omega) (by omega) dX0_remove_17 (by decide) rfl (fun _ => ?_) (fun c0 => absurd c0 (by omega))
    refine v_aload_n (pc' := 41) F dX0_remove_40 rfl (j := 2) rfl rfl ?_
    refine v_dup (pc' := 42) F dX0_remove_41 rfl rfl ?_
    refine v_getf (pc' := 45) (v := .int (nI dr)) F k_X0_remove_0 hb 3 (by decide) m_X0_remove_f24 rfl dX0_remove_42 rfl ?_
    refine v_iconst (pc' := 46) (v := nI 1) F dX0_remove_45 (by decide) rfl ?_
    refine v_iadd (pc' := 47) (v := nI (dr + 1)) F dX0_remove_46 (nI_add dr 1) rfl ?_
    refine w_putf (pc' := 50) F k_X0_remove_0 tyX0_ok nmX0 hb 3 (by decide) m_X0_remove_f24 rfl  rfl rfl (show 3 < 4 by decide) [.ref va, .int (nI i), .int (nI pc), .int (nI (dr + 1))] rfl dX0_remove_47 rfl (fun h1 a2 f3 => ?_)
    have fr4 : gfr [b, va] h h1 := (gfr.mono f3 (by intro q9 z9 m9; apply z9; simp only [List.mem_cons, List.not_mem_nil, or_false] at m9 ⊢; omega))
    have g5 := f3 _ _ (gnc ((g_neA hb hva).symm) gn0) hva
    exact v_vret F E (by omega) (by omega)  dX0_remove_50 (hp _ ⟨a2, f, g5, fun j hj => by by_cases z : j < k; (rw [hf1 j z]; exact congrArg some (if_pos z).symm); (rw [hf2 j (by omega) (by omega)]; exact congrArg some (if_neg z).symm)⟩ fr4)
  | succ m ih =>
    obtain ⟨fsk, hk5⟩ := hk (i + 1) (by omega)
    refine v_iload_n (pc' := 13) F dX0_remove_12 rfl (j := 0) rfl rfl ?_
    refine v_aload_n (pc' := 14) F dX0_remove_13 rfl (j := 2) rfl rfl ?_
    refine v_getf (pc' := 17) (v := .int (nI n)) F k_X0_remove_0 hb 1 (by decide) m_X0_remove_f17 rfl dX0_remove_14 rfl ?_
    refine w_icmp_ge (tgt := 40) (pc' := 20) F (by omega) (by omega) dX0_remove_17 (by decide) rfl (fun c0 => absurd c0 (by omega)) (fun _ => ?_)
    refine v_aload_n (pc' := 21) F dX0_remove_20 rfl (j := 2) rfl rfl ?_
    refine v_getf (pc' := 24) (v := .ref va) F k_X0_remove_0 hb 0 (by decide) m_X0_remove_f11 rfl dX0_remove_21 rfl ?_
    refine v_iload_n (pc' := 25) F dX0_remove_24 rfl (j := 0) rfl rfl ?_
    refine v_aload_n (pc' := 26) F dX0_remove_25 rfl (j := 2) rfl rfl ?_
    refine v_getf (pc' := 29) (v := .ref va) F k_X0_remove_0 hb 0 (by decide) m_X0_remove_f11 rfl dX0_remove_26 rfl ?_
    refine v_iload_n (pc' := 30) F dX0_remove_29 rfl (j := 0) rfl rfl ?_
    refine v_iconst (pc' := 31) (v := nI 1) F dX0_remove_30 (by decide) rfl ?_
    refine v_iadd (pc' := 32) (v := nI (i + 1)) F dX0_remove_31 (nI_add i 1) rfl ?_
    refine w_vald (pc' := 33) (v := some (ad (i + 1))) F hva (by omega) (by omega) (hf3 (i + 1) (by omega) (by omega)) dX0_remove_32 rfl ?_
    refine w_vast (pc' := 34) F hva hk5 (by omega) (by omega) dX0_remove_33 rfl (fun h1 a2 f3 => ?_)
    refine v_iinc (pc' := 37) (j := 0) (x := nI i) (v := nI (i + 1)) (L' := [(2, .int (nI (i + 1))), (1, .int (nI k)), (0, .ref b)]) F dX0_remove_34 rfl (nI_add i 1) (by decide) rfl rfl ?_
    refine v_goto (tgt := 12) F dX0_remove_37 (by decide) ?_
    have g4 := f3 _ _ (gnc (g_neA hb hva) gn0) hb
    have fr5 : gfr [b, va] h h1 := (gfr.mono f3 (by intro q9 z9 m9; apply z9; simp only [List.mem_cons, List.not_mem_nil, or_false] at m9 ⊢; omega))
    refine v_sub (L' := [(2, .int (nI (i + 1))), (1, .int (nI k)), (0, .ref b)]) [0, 1, 2] rfl ?_
    exact ih (i := i + 1) g4 a2 (fun j hj => by obtain ⟨fsj, hj5⟩ := hk j hj; exact ⟨fsj, f3 _ _ (gnc (g_neA hj5 hva) gn0) hj5⟩) (fun j hj => by unfold va_up; rw [if_neg (by omega)]; exact hf1 j hj) (fun j h1 h2 => by unfold va_up; by_cases z : j = i; (rw [if_pos z, z]); (rw [if_neg z]; exact hf2 j h1 (by omega))) (fun j h1 h2 => by unfold va_up; rw [if_neg (by omega)]; exact hf3 j (by omega) h2) (by omega) (by omega) (fun h' q1 q2 => hp h' q1 (gfr.t fr5 q2))
set_option maxHeartbeats 4000000 in
set_option maxRecDepth 100000 in
theorem c_X0_remove (G : gG) (z0 : Nat) (l : Launch) {h : gH} {b va n pc dr k : Nat} {ad : Nat → Nat} (hn : n < 64) (hdr : dr < 65536) (hkn : k ≤ n) (hB : isBk G h b va (n + 1) pc dr ad) (hk : ∀ j, j < n + 1 → ∃ fs, h (ad j) = some (.inr (5, fs))) : gC G z0 l yX0_remove wsX0_remove 0 0 [.ref b, .int (nI k)] h (fun o9 h' => o9 = none ∧ isBk G h' b va n pc (dr + 1) (fun j => if j < k then ad j else ad (j + 1)) ∧ gfr [b, va] h h') 0 0 := by
  obtain ⟨hb, f, hva, hf⟩ := id hB
  refine gC_of (cc := cX0_remove) (nL := 3) (ret := none) (by decide) rfl (Nat.le_of_ble_eq_true rfl) ?_
  intro X F E _
  change gF G z0 X cX0_remove 3 RX0 wsX0_remove none "remove" 0 0 _ _ at F
  show gV G z0 X 0 0 h 0 [(0, .ref b), (1, .int (nI k))] []
  refine v_aload_n (pc' := 1) F dX0_remove_0 rfl (j := 0) rfl rfl ?_
  refine v_dup (pc' := 2) F dX0_remove_1 rfl rfl ?_
  refine v_getf (pc' := 5) (v := .int (nI (n + 1))) F k_X0_remove_0 hb 1 (by decide) m_X0_remove_f17 rfl dX0_remove_2 rfl ?_
  refine v_iconst (pc' := 6) (v := nI 1) F dX0_remove_5 (by decide) rfl ?_
  refine v_isub (pc' := 7) (v := nI n) F dX0_remove_6 (g_subn (by omega) (by omega)) rfl ?_
  refine w_putf (pc' := 10) F k_X0_remove_0 tyX0_ok nmX0 hb 1 (by decide) m_X0_remove_f17 rfl  rfl rfl (show 1 < 4 by decide) [.ref va, .int (nI n), .int (nI pc), .int (nI dr)] rfl dX0_remove_7 rfl (fun h1 a2 f3 => ?_)
  refine v_iload_n (pc' := 11) F dX0_remove_10 rfl (j := 1) rfl rfl ?_
  refine v_istore_n (pc' := 12) (i := 2) (L' := [(2, .int (nI k)), (0, .ref b), (1, .int (nI k))]) F dX0_remove_11 rfl (by decide) rfl rfl ?_
  have g4 := f3 _ _ (gnc ((g_neA hb hva).symm) gn0) hva
  have fr5 : gfr [b, va] h h1 := (gfr.mono f3 (by intro q9 z9 m9; apply z9; simp only [List.mem_cons, List.not_mem_nil, or_false] at m9 ⊢; omega))
  refine v_sub (L' := [(2, .int (nI k)), (1, .int (nI k)), (0, .ref b)]) [0, 2, 1] rfl ?_
  exact lp_X0_remove (i := k) (m := n - k) F E (Nat.le_refl _) (Nat.le_refl _) hn hdr a2 g4 (fun j hj => by obtain ⟨fsj, hj5⟩ := hk j hj; by_cases z : ad j = b; (rw [z, hb] at hj5; cases hj5); exact ⟨fsj, f3 _ _ (gnc z gn0) hj5⟩) (fun j hj => hf j (by omega)) (fun j h1 h2 => by omega) (fun j h1 h2 => hf j h2) (Nat.le_refl _) (by omega) (fun h1 q1 q2 => ⟨rfl, q1, gfr.t fr5 q2⟩)
