/-! STEADYQUEUES: ITS CONSTRUCTOR -/
theorem isBk.fr {G : gG} {h h' : gH} {a b va n pc dr : Nat} {ad : Nat → Nat} {g : Nat → Option Nat} (ha : h a = some (oQ G 10 g)) (f : gfr [a] h h') (k : isBk G h b va n pc dr ad) : isBk G h' b va n pc dr ad := by
  obtain ⟨hb, fv, hva, hf⟩ := k
  exact ⟨f _ _ (gnc (g_neA hb ha) gn0) hb, fv, f _ _ (gnc (g_neL hva ha (by decide)) gn0) hva, hf⟩
/-- the ten books -/
def tenB (G : gG) (h : gH) (m root : Nat) (bk bv : Nat → Nat) : Prop := (∀ j, j < m → isBk G h (bk j) (bv j) 1 2 0 (fun _ => root)) ∧ (∀ j k, j < m → k < m → bk j = bk k → j = k) ∧ ∀ j k, j < m → k < m → bv j = bv k → j = k
theorem m_X3_init_ml3 : Cond.methodLink RX3 3 objectInit ∈ wsX3_init := by decide +kernel
theorem m_X3_init_oi : Cond.instanceMethod objectInit ∈ wsX3_init := by decide +kernel
theorem m_X3_init_oc : Cond.code objectInit ⟨#[0xb1]⟩ 1 none ∈ wsX3_init := by decide +kernel
theorem k_X3_init_3 : gCl wsX3_init 3 RX3 TX3 10 := ⟨by decide +kernel, rfl⟩
theorem m_X3_init_f9 : Cond.fieldLink RX3 9 "SteadyQueues$SetupReader" "offsetOfError" "I" ∈ wsX3_init := by decide +kernel
theorem m_X3_init_f15 : Cond.fieldLink RX3 15 "SteadyQueues$SetupReader" "text" "[B" ∈ wsX3_init := by decide +kernel
theorem m_X3_init_f19 : Cond.fieldLink RX3 19 "SteadyQueues$SetupReader" "length" "I" ∈ wsX3_init := by decide +kernel
theorem m_X3_init_f22 : Cond.fieldLink RX3 22 "SteadyQueues$SetupReader" "book" "LSteadyQueues$Book;" ∈ wsX3_init := by decide +kernel
theorem m_X3_init_f26 : Cond.fieldLink RX3 26 "SteadyQueues$SetupReader" "error" "I" ∈ wsX3_init := by decide +kernel
theorem m_X3_init_f29 : Cond.fieldLink RX3 29 "SteadyQueues$SetupReader" "at" "I" ∈ wsX3_init := by decide +kernel
theorem m_X3_init_f32 : Cond.fieldLink RX3 32 "SteadyQueues$SetupReader" "start" "I" ∈ wsX3_init := by decide +kernel
theorem m_X3_init_f35 : Cond.fieldLink RX3 35 "SteadyQueues$SetupReader" "kind" "I" ∈ wsX3_init := by decide +kernel
theorem m_X3_init_f38 : Cond.fieldLink RX3 38 "SteadyQueues$SetupReader" "number" "I" ∈ wsX3_init := by decide +kernel
theorem m_X3_init_f41 : Cond.fieldLink RX3 41 "SteadyQueues$SetupReader" "paceMayCome" "Z" ∈ wsX3_init := by decide +kernel
set_option maxHeartbeats 4000000 in
set_option maxRecDepth 100000 in
theorem c_X3_init (G : gG) (z0 : Nat) (l : Launch) {h : gH} {rd : Nat} (hr : h rd = some (.inr (3, [.int (nI 0), .null, .int (nI 0), .null, .int (nI 0), .int (nI 0), .int (nI 0), .int (nI 0), .int (nI 0), .int (nI 0)]))) : gC G z0 l yX3_init wsX3_init 1 20 [.ref rd] h (fun v h' => v = none ∧ h' rd = some (.inr (3, [.int (-1), .null, .int (nI 0), .null, .int (nI 0), .int (nI 0), .int (nI 0), .int (nI 0), .int (nI 0), .int (nI 1)])) ∧ gfr [rd] h h') 0 0 := by
  refine gC_of (cc := cX3_init) (nL := 1) (ret := none) (by decide) rfl (Nat.le_of_ble_eq_true rfl) ?_
  intro X F E _
  change gF G z0 X cX3_init 1 RX3 wsX3_init none "<init>" 1 20 _ _ at F
  show gV G z0 X 0 0 h 0 [(0, .ref rd)] []
  refine v_aload_n (pc' := 1) F dX3_init_0 rfl (j := 0) rfl rfl ?_
  refine v_objInit (pc' := 4) F m_X3_init_ml3 m_X3_init_oi m_X3_init_oc (by decide) (Nat.le_of_ble_eq_true rfl) dX3_init_1 rfl ?_
  refine v_aload_n (pc' := 5) F dX3_init_4 rfl (j := 0) rfl rfl ?_
  refine v_iconst (pc' := 6) (v := (-1)) F dX3_init_5 (by decide) rfl ?_
  refine w_putf (pc' := 9) F k_X3_init_3 tyX3_ok nmX3 hr 0 (by decide) m_X3_init_f9 rfl  rfl rfl (show 0 < 10 by decide) [.int (-1), .null, .int (nI 0), .null, .int (nI 0), .int (nI 0), .int (nI 0), .int (nI 0), .int (nI 0), .int (nI 0)] rfl dX3_init_6 rfl (fun h1 a2 f3 => ?_)
  refine v_aload_n (pc' := 10) F dX3_init_9 rfl (j := 0) rfl rfl ?_
  refine v_null (pc' := 11) F dX3_init_10 rfl ?_
  refine w_putf (pc' := 14) F k_X3_init_3 tyX3_ok nmX3 a2 1 (by decide) m_X3_init_f15 rfl  rfl rfl (show 1 < 10 by decide) [.int (-1), .null, .int (nI 0), .null, .int (nI 0), .int (nI 0), .int (nI 0), .int (nI 0), .int (nI 0), .int (nI 0)] rfl dX3_init_11 rfl (fun h4 a5 f6 => ?_)
  refine v_aload_n (pc' := 15) F dX3_init_14 rfl (j := 0) rfl rfl ?_
  refine v_iconst (pc' := 16) (v := nI 0) F dX3_init_15 (by decide) rfl ?_
  refine w_putf (pc' := 19) F k_X3_init_3 tyX3_ok nmX3 a5 2 (by decide) m_X3_init_f19 rfl  rfl rfl (show 2 < 10 by decide) [.int (-1), .null, .int (nI 0), .null, .int (nI 0), .int (nI 0), .int (nI 0), .int (nI 0), .int (nI 0), .int (nI 0)] rfl dX3_init_16 rfl (fun h7 a8 f9 => ?_)
  refine v_aload_n (pc' := 20) F dX3_init_19 rfl (j := 0) rfl rfl ?_
  refine v_null (pc' := 21) F dX3_init_20 rfl ?_
  refine w_putf (pc' := 24) F k_X3_init_3 tyX3_ok nmX3 a8 3 (by decide) m_X3_init_f22 rfl  rfl rfl (show 3 < 10 by decide) [.int (-1), .null, .int (nI 0), .null, .int (nI 0), .int (nI 0), .int (nI 0), .int (nI 0), .int (nI 0), .int (nI 0)] rfl dX3_init_21 rfl (fun h10 a11 f12 => ?_)
  refine v_aload_n (pc' := 25) F dX3_init_24 rfl (j := 0) rfl rfl ?_
  refine v_iconst (pc' := 26) (v := nI 0) F dX3_init_25 (by decide) rfl ?_
  refine w_putf (pc' := 29) F k_X3_init_3 tyX3_ok nmX3 a11 4 (by decide) m_X3_init_f26 rfl  rfl rfl (show 4 < 10 by decide) [.int (-1), .null, .int (nI 0), .null, .int (nI 0), .int (nI 0), .int (nI 0), .int (nI 0), .int (nI 0), .int (nI 0)] rfl dX3_init_26 rfl (fun h13 a14 f15 => ?_)
  refine v_aload_n (pc' := 30) F dX3_init_29 rfl (j := 0) rfl rfl ?_
  refine v_iconst (pc' := 31) (v := nI 0) F dX3_init_30 (by decide) rfl ?_
  refine w_putf (pc' := 34) F k_X3_init_3 tyX3_ok nmX3 a14 5 (by decide) m_X3_init_f29 rfl  rfl rfl (show 5 < 10 by decide) [.int (-1), .null, .int (nI 0), .null, .int (nI 0), .int (nI 0), .int (nI 0), .int (nI 0), .int (nI 0), .int (nI 0)] rfl dX3_init_31 rfl (fun h16 a17 f18 => ?_)
  refine v_aload_n (pc' := 35) F dX3_init_34 rfl (j := 0) rfl rfl ?_
  refine v_iconst (pc' := 36) (v := nI 0) F dX3_init_35 (by decide) rfl ?_
  refine w_putf (pc' := 39) F k_X3_init_3 tyX3_ok nmX3 a17 6 (by decide) m_X3_init_f32 rfl  rfl rfl (show 6 < 10 by decide) [.int (-1), .null, .int (nI 0), .null, .int (nI 0), .int (nI 0), .int (nI 0), .int (nI 0), .int (nI 0), .int (nI 0)] rfl dX3_init_36 rfl (fun h19 a20 f21 => ?_)
  refine v_aload_n (pc' := 40) F dX3_init_39 rfl (j := 0) rfl rfl ?_
  refine v_iconst (pc' := 41) (v := nI 0) F dX3_init_40 (by decide) rfl ?_
  refine w_putf (pc' := 44) F k_X3_init_3 tyX3_ok nmX3 a20 7 (by decide) m_X3_init_f35 rfl  rfl rfl (show 7 < 10 by decide) [.int (-1), .null, .int (nI 0), .null, .int (nI 0), .int (nI 0), .int (nI 0), .int (nI 0), .int (nI 0), .int (nI 0)] rfl dX3_init_41 rfl (fun h22 a23 f24 => ?_)
  refine v_aload_n (pc' := 45) F dX3_init_44 rfl (j := 0) rfl rfl ?_
  refine v_iconst (pc' := 46) (v := nI 0) F dX3_init_45 (by decide) rfl ?_
  refine w_putf (pc' := 49) F k_X3_init_3 tyX3_ok nmX3 a23 8 (by decide) m_X3_init_f38 rfl  rfl rfl (show 8 < 10 by decide) [.int (-1), .null, .int (nI 0), .null, .int (nI 0), .int (nI 0), .int (nI 0), .int (nI 0), .int (nI 0), .int (nI 0)] rfl dX3_init_46 rfl (fun h25 a26 f27 => ?_)
  refine v_aload_n (pc' := 50) F dX3_init_49 rfl (j := 0) rfl rfl ?_
  refine v_iconst (pc' := 51) (v := nI 1) F dX3_init_50 (by decide) rfl ?_
  refine w_putf (pc' := 54) F k_X3_init_3 tyX3_ok nmX3 a26 9 (by decide) m_X3_init_f41 rfl  (by decide) rfl (show 9 < 10 by decide) [.int (-1), .null, .int (nI 0), .null, .int (nI 0), .int (nI 0), .int (nI 0), .int (nI 0), .int (nI 0), .int (nI 1)] rfl dX3_init_51 rfl (fun h28 a29 f30 => ?_)
  have fr31 : gfr [rd] h h28 := (gfr.t f3 (gfr.t f6 (gfr.t f9 (gfr.t f12 (gfr.t f15 (gfr.t f18 (gfr.t f21 (gfr.t f24 (gfr.t f27 f30)))))))))
  exact v_vret F E (by omega) (by omega)  dX3_init_54 ⟨rfl, a29, fr31⟩
theorem k_X6_init_6 : gCl wsX6_init 6 RX6 TX6 10 := ⟨by decide +kernel, rfl⟩
theorem m_X6_init_f22 : Cond.fieldLink RX6 22 "SteadyQueues" "books" "[LSteadyQueues$Book;" ∈ wsX6_init := by decide +kernel
theorem k_X6_init_0 : gCl wsX6_init 0 RX0 TX0 4 := ⟨by decide +kernel, rfl⟩
theorem m_X6_init_c20 : Cond.classLink RX6 20 RX0 ∈ wsX6_init := by decide +kernel
theorem m_X6_init_in0 : Cond.instantiable RX0 4 ∈ wsX6_init := by decide +kernel
theorem m_X6_init_ini0 : Cond.initialized RX0 ∈ wsX6_init := by decide +kernel
theorem m_X6_init_ml58 : Cond.methodLink RX6 58 yX0_init ∈ wsX6_init := by decide +kernel
theorem m_X6_init_imX0_init : Cond.instanceMethod yX0_init ∈ wsX6_init := by decide +kernel
theorem hd_X0_init : yX0_init.cls ≠ "java/lang/invoke/MethodHandle" ∧ yX0_init.cls ≠ "java/lang/invoke/VarHandle" ∧ (parseMethodDescriptor yX0_init.desc).map (fun d => d.parameters.length) = some 1 := by decide +kernel
set_option maxHeartbeats 4000000 in
set_option maxRecDepth 100000 in
theorem lp_X6_init {G : gG} {z0 : Nat} {X : gX} {l : Launch} {post : Option Value → gH → Prop} {mc ms cells slots m i x buf rd bks oq rw orw root : Nat} {h : gH} {fb : Nat → Option Nat} {bk bv : Nat → Nat} {rfs : List Value} (F : gF G z0 X cX6_init 3 RX6 wsX6_init none "<init>" 3 62 mc ms) (E : gE G z0 X post mc ms) (hx : h x = some (.inr (6, [.ref buf, .ref rd, .ref bks, .ref oq, .ref rw, .ref orw, .int (nI 0), .int (-1), .int (nI 0), .int (nI 0)]))) (hbks : h bks = some (oQ G 10 fb)) (hroot : h root = some (.inr (5, rfs))) (hfb : ∀ j, j < i → fb j = some (bk j)) (hT : tenB G h i root bk bv) (him : i + m = 10) (hcc : cells + 2 * m ≤ mc) (hss : slots + 68 * m ≤ ms) (hp : ∀ (h' : gH) (fb' : Nat → Option Nat) (bk' bv' : Nat → Nat), gfr [bks] h h' → h' bks = some (oQ G 10 fb') → (∀ j, j < 10 → fb' j = some (bk' j)) → tenB G h' 10 root bk' bv' → post none h') : gV G z0 X cells slots h 92 [(2, .int (nI i)), (1, .ref root), (0, .ref x)] [] := by
  induction m generalizing i h fb bk bv cells slots with
  | zero =>
    refine v_iload_n (pc' := 93) F dX6_init_92 rfl (j := 0) rfl rfl ?_
    refine v_bipush (pc' := 95) (v := nI 10) F dX6_init_93 (by decide) rfl ?_
    refine w_icmp_ge (tgt := 118) (pc' := 98) F (by omega) (by omega) dX6_init_95 (by decide) rfl (fun _ => ?_) (fun c0 => absurd c0 (by omega))
    exact v_vret F E (by omega) (by omega)  dX6_init_118 (hp h fb bk bv gfr.rf hbks (fun j hj => hfb j (by omega)) ⟨fun j hj => hT.1 j (by omega), fun j k a b => hT.2.1 j k (by omega) (by omega), fun j k a b => hT.2.2 j k (by omega) (by omega)⟩)
  | succ m ih =>
    refine v_iload_n (pc' := 93) F dX6_init_92 rfl (j := 0) rfl rfl ?_
    refine v_bipush (pc' := 95) (v := nI 10) F dX6_init_93 (by decide) rfl ?_
    refine w_icmp_ge (tgt := 118) (pc' := 98) F (by omega) (by omega) dX6_init_95 (by decide) rfl (fun c0 => absurd c0 (by omega)) (fun _ => ?_)
    refine v_aload_n (pc' := 99) F dX6_init_98 rfl (j := 2) rfl rfl ?_
    refine v_getf (pc' := 102) (v := .ref bks) F k_X6_init_6 hx 2 (by decide) m_X6_init_f22 rfl dX6_init_99 rfl ?_
    refine v_iload_n (pc' := 103) F dX6_init_102 rfl (j := 0) rfl rfl ?_
    refine w_new (pc' := 106) F [.null, .int (nI 0), .int (nI 0), .int (nI 0)] k_X6_init_0 tyX0_ok m_X6_init_c20 m_X6_init_in0 m_X6_init_ini0 (g_dv0 ) (by omega) (by omega) dX6_init_103 rfl (fun q1 h2 e3 a4 f5 => ?_)
    refine v_dup (pc' := 107) F dX6_init_106 rfl rfl ?_
    refine v_aload_n (pc' := 108) F dX6_init_107 rfl (j := 1) rfl rfl ?_
    have g6 := f5 _ _ gn0 hx
    have g7 := f5 _ _ gn0 hbks
    have g8 := f5 _ _ gn0 hroot
    refine v_callI (pc' := 111) (mcc := 1) (msc := 64) (As := [.ref root]) (st := [.ref q1, .int (nI i), .ref bks]) F (fun l => c_X0_init G z0 l a4 g8) gX6_init_X0_init rfl m_X6_init_ini0 m_X6_init_ml58 m_X6_init_imX0_init rfl hd_X0_init (by decide) (by decide) rfl rfl (Nat.le_of_ble_eq_true rfl) (by omega) (by omega) dX6_init_108 rfl (fun v10 h9 hq => ?_)
    obtain ⟨rfl, vn, hvn, hBn, fB⟩ := hq
    obtain ⟨hbn, fvn, hvan, hfvn⟩ := id hBn
    have g11 := fB _ _ (gnc (g_neN hbks e3) gn0) g7
    refine w_qast (pc' := 112) F g11 hbn (by omega) (by omega) dX6_init_111 rfl (fun h12 a13 f14 => ?_)
    refine v_iinc (pc' := 115) (j := 0) (x := nI i) (v := nI (i + 1)) (L' := [(2, .int (nI (i + 1))), (1, .ref root), (0, .ref x)]) F dX6_init_112 rfl (nI_add i 1) (by decide) rfl rfl ?_
    refine v_goto (tgt := 92) F dX6_init_115 (by decide) ?_
    refine v_sub (L' := [(2, .int (nI (i + 1))), (1, .ref root), (0, .ref x)]) [0, 1, 2] rfl ?_
    have fr16 : gfr [q1, bks] h h12 := (gfr.t (gfr.mono0 f5) (gfr.t (gfr.mono fB (by intro q9 z9 m9; apply z9; simp only [List.mem_cons, List.not_mem_nil, or_false] at m9 ⊢; omega)) (gfr.mono f14 (by intro q9 z9 m9; apply z9; simp only [List.mem_cons, List.not_mem_nil, or_false] at m9 ⊢; omega))))
    have fr15 := gfr.drop e3 fr16
    have g17 := f14 _ _ (gnc ((g_neN hbks e3).symm) gn0) hbn
    have g18 := f14 _ _ (gnc (g_neL hvan g11 (by decide)) gn0) hvan
    have g19 := fB _ _ (gnc (g_neN hx e3) gn0) g6
    have g20 := f14 _ _ (gnc (g_neA g19 g11) gn0) g19
    have g21 := fB _ _ (gnc (g_neN hroot e3) gn0) g8
    have g22 := f14 _ _ (gnc (g_neA g21 g11) gn0) g21
    have hq0 : h q1 = none := e3
    have hv0 : h vn = none := by
      cases hz : h vn with
      | none => rfl
      | some e9 => rw [f5 _ _ gn0 hz] at hvn; cases hvn
    have hT2 : tenB G h12 (i + 1) root (va_up bk i q1) (va_up bv i vn) := by
      refine ⟨fun j hj => ?_, fun j k hj hk => ?_, fun j k hj hk => ?_⟩
      · unfold va_up
        by_cases e : j = i
        · rw [if_pos e, if_pos e]
          exact ⟨g17, fvn, g18, hfvn⟩
        · rw [if_neg e, if_neg e]
          exact (hT.1 j (by omega)).fr hbks fr15
      · unfold va_up
        by_cases e1 : j = i
        · by_cases e2 : k = i
          · intro _; omega
          · rw [if_pos e1, if_neg e2]
            intro z
            have := (hT.1 k (by omega)).1
            rw [← z, hq0] at this; cases this
        · by_cases e2 : k = i
          · rw [if_neg e1, if_pos e2]
            intro z
            have := (hT.1 j (by omega)).1
            rw [z, hq0] at this; cases this
          · rw [if_neg e1, if_neg e2]
            exact hT.2.1 j k (by omega) (by omega)
      · unfold va_up
        by_cases e1 : j = i
        · by_cases e2 : k = i
          · intro _; omega
          · rw [if_pos e1, if_neg e2]
            intro z
            obtain ⟨-, f9, this, -⟩ := hT.1 k (by omega)
            rw [← z, hv0] at this; cases this
        · by_cases e2 : k = i
          · rw [if_neg e1, if_pos e2]
            intro z
            obtain ⟨-, f9, this, -⟩ := hT.1 j (by omega)
            rw [z, hv0] at this; cases this
          · rw [if_neg e1, if_neg e2]
            exact hT.2.2 j k (by omega) (by omega)
    exact ih (i := i + 1) g20 a13 g22 (fun j hj => by unfold va_up; by_cases e : j = i; (rw [if_pos e, if_pos e]); (rw [if_neg e, if_neg e]; exact hfb j (by omega))) hT2 (by omega) (by omega) (by omega) (fun h9 fb9 bk9 bv9 fr9 a9 b9 c9 => hp h9 fb9 bk9 bv9 (gfr.t fr15 fr9) a9 b9 c9)
theorem m_X6_init_ml3 : Cond.methodLink RX6 3 objectInit ∈ wsX6_init := by decide +kernel
theorem m_X6_init_oi : Cond.instanceMethod objectInit ∈ wsX6_init := by decide +kernel
theorem m_X6_init_oc : Cond.code objectInit ⟨#[0xb1]⟩ 1 none ∈ wsX6_init := by decide +kernel
theorem m_X6_init_acbyte : Cond.arrayClass .byte ∈ wsX6_init := by decide +kernel
theorem m_X6_init_f9 : Cond.fieldLink RX6 9 "SteadyQueues" "buffer" "[B" ∈ wsX6_init := by decide +kernel
theorem k_X6_init_3 : gCl wsX6_init 3 RX3 TX3 10 := ⟨by decide +kernel, rfl⟩
theorem m_X6_init_c13 : Cond.classLink RX6 13 RX3 ∈ wsX6_init := by decide +kernel
theorem m_X6_init_in3 : Cond.instantiable RX3 10 ∈ wsX6_init := by decide +kernel
theorem m_X6_init_ini3 : Cond.initialized RX3 ∈ wsX6_init := by decide +kernel
theorem m_X6_init_imX3_init : Cond.instanceMethod yX3_init ∈ wsX6_init := by decide +kernel
theorem hd_X3_init : yX3_init.cls ≠ "java/lang/invoke/MethodHandle" ∧ yX3_init.cls ≠ "java/lang/invoke/VarHandle" ∧ (parseMethodDescriptor yX3_init.desc).map (fun d => d.parameters.length) = some 0 := by decide +kernel
theorem m_X6_init_f16 : Cond.fieldLink RX6 16 "SteadyQueues" "reader" "LSteadyQueues$SetupReader;" ∈ wsX6_init := by decide +kernel
theorem k_X6_init_2 : gCl wsX6_init 2 RX2 TX2 4 := ⟨by decide +kernel, rfl⟩
theorem m_X6_init_c26 : Cond.classLink RX6 26 RX2 ∈ wsX6_init := by decide +kernel
theorem m_X6_init_in2 : Cond.instantiable RX2 4 ∈ wsX6_init := by decide +kernel
theorem m_X6_init_ini2 : Cond.initialized RX2 ∈ wsX6_init := by decide +kernel
theorem m_X6_init_imX2_init : Cond.instanceMethod yX2_init ∈ wsX6_init := by decide +kernel
theorem hd_X2_init : yX2_init.cls ≠ "java/lang/invoke/MethodHandle" ∧ yX2_init.cls ≠ "java/lang/invoke/VarHandle" ∧ (parseMethodDescriptor yX2_init.desc).map (fun d => d.parameters.length) = some 0 := by decide +kernel
theorem m_X6_init_f29 : Cond.fieldLink RX6 29 "SteadyQueues" "otherQueue" "LSteadyQueues$OtherQueue;" ∈ wsX6_init := by decide +kernel
theorem m_X6_init_acint : Cond.arrayClass .int ∈ wsX6_init := by decide +kernel
theorem m_X6_init_f33 : Cond.fieldLink RX6 33 "SteadyQueues" "row" "[I" ∈ wsX6_init := by decide +kernel
theorem m_X6_init_f37 : Cond.fieldLink RX6 37 "SteadyQueues" "otherRow" "[I" ∈ wsX6_init := by decide +kernel
theorem m_X6_init_f40 : Cond.fieldLink RX6 40 "SteadyQueues" "bufferLength" "I" ∈ wsX6_init := by decide +kernel
theorem m_X6_init_f44 : Cond.fieldLink RX6 44 "SteadyQueues" "offsetOfError" "I" ∈ wsX6_init := by decide +kernel
theorem m_X6_init_f47 : Cond.fieldLink RX6 47 "SteadyQueues" "current" "I" ∈ wsX6_init := by decide +kernel
theorem m_X6_init_f50 : Cond.fieldLink RX6 50 "SteadyQueues" "undoable" "I" ∈ wsX6_init := by decide +kernel
theorem k_X6_init_5 : gCl wsX6_init 5 RX5 TX5 9 := ⟨by decide +kernel, rfl⟩
theorem m_X6_init_c53 : Cond.classLink RX6 53 RX5 ∈ wsX6_init := by decide +kernel
theorem m_X6_init_in5 : Cond.instantiable RX5 9 ∈ wsX6_init := by decide +kernel
theorem m_X6_init_ini5 : Cond.initialized RX5 ∈ wsX6_init := by decide +kernel
theorem m_X6_init_ml55 : Cond.methodLink RX6 55 yX5_init ∈ wsX6_init := by decide +kernel
theorem m_X6_init_imX5_init : Cond.instanceMethod yX5_init ∈ wsX6_init := by decide +kernel
set_option maxHeartbeats 4000000 in
set_option maxRecDepth 100000 in
theorem c_X6_init (G : gG) (z0 : Nat) (l : Launch) {h : gH} {x : Nat} (hx : h x = some (.inr (6, [.null, .null, .null, .null, .null, .null, .int (nI 0), .int (nI 0), .int (nI 0), .int (nI 0)]))) : gC G z0 l yX6_init wsX6_init 3 62 [.ref x] h (fun v h' => v = none ∧ ∃ (buf rd bks oq rw orw root : Nat) (bk bv : Nat → Nat), isX6 G h' x buf rd bks oq rw orw 0 (-1) 0 0 bk ∧ h' buf = some (oB G 500 (fun _ => 0)) ∧ rdI h' rd ∧ scr G h' rw orw oq ∧ rw ≠ orw ∧ isVc h' [] [root] ∧ tenB G h' 10 root bk bv ∧ gfr [x] h h') 28 1347 := by
  refine gC_of (cc := cX6_init) (nL := 3) (ret := none) (by decide) rfl (Nat.le_of_ble_eq_true rfl) ?_
  intro X F E _
  change gF G z0 X cX6_init 3 RX6 wsX6_init none "<init>" 3 62 _ _ at F
  show gV G z0 X 0 0 h 0 [(0, .ref x)] []
  refine v_aload_n (pc' := 1) F dX6_init_0 rfl (j := 0) rfl rfl ?_
  refine v_objInit (pc' := 4) F m_X6_init_ml3 m_X6_init_oi m_X6_init_oc (by decide) (Nat.le_of_ble_eq_true rfl) dX6_init_1 rfl ?_
  refine v_aload_n (pc' := 5) F dX6_init_4 rfl (j := 0) rfl rfl ?_
  refine v_sipush (pc' := 8) (v := nI 500) F dX6_init_5 (by decide) rfl ?_
  refine w_newaB (pc' := 10) F m_X6_init_acbyte (by omega) (by omega) (by omega) dX6_init_8 rfl (fun q1 h2 e3 a4 f5 => ?_)
  have g6 := f5 _ _ gn0 hx
  refine w_putfF (pc' := 13) F k_X6_init_6 tyX6_ok nmX6 g6 0 (by decide) m_X6_init_f9 rfl rfl rfl rfl rfl (show 0 < 10 by decide) [.ref q1, .null, .null, .null, .null, .null, .int (nI 0), .int (nI 0), .int (nI 0), .int (nI 0)] rfl dX6_init_10 rfl (fun h7 a8 f9 => ?_)
  refine v_aload_n (pc' := 14) F dX6_init_13 rfl (j := 0) rfl rfl ?_
  refine w_new (pc' := 17) F [.int (nI 0), .null, .int (nI 0), .null, .int (nI 0), .int (nI 0), .int (nI 0), .int (nI 0), .int (nI 0), .int (nI 0)] k_X6_init_3 tyX3_ok m_X6_init_c13 m_X6_init_in3 m_X6_init_ini3 (g_dv3 ) (by omega) (by omega) dX6_init_14 rfl (fun q10 h11 e12 a13 f14 => ?_)
  have g15 := f9 _ _ (gnc ((g_neN hx e3).symm) gn0) a4
  refine v_dup (pc' := 18) F dX6_init_17 rfl rfl ?_
  refine v_callIN (pc' := 21) (mcc := 0) (msc := 0) (As := []) (st := [.ref q10, .ref x]) F (fun l => c_X3_init G z0 l a13) gX6_init_X3_init_n15 rfl m_X6_init_ini3 (fun U h9 => h9.1.2.1) m_X6_init_imX3_init rfl hd_X3_init (by decide) (by decide) rfl rfl (Nat.le_of_ble_eq_true rfl) (by omega) (by omega) dX6_init_18 rfl (fun v17 h16 hq => ?_)
  obtain ⟨rfl, hr3, fr3⟩ := hq
  have g18 := f14 _ _ gn0 a8
  have g19 := f14 _ _ gn0 g15
  have g20 := fr3 _ _ (gnc (g_neN a8 e12) gn0) g18
  refine w_putfF (pc' := 24) F k_X6_init_6 tyX6_ok nmX6 g20 1 (by decide) m_X6_init_f16 rfl rfl rfl rfl rfl (show 1 < 10 by decide) [.ref q1, .ref q10, .null, .null, .null, .null, .int (nI 0), .int (nI 0), .int (nI 0), .int (nI 0)] rfl dX6_init_21 rfl (fun h21 a22 f23 => ?_)
  refine v_aload_n (pc' := 25) F dX6_init_24 rfl (j := 0) rfl rfl ?_
  refine v_bipush (pc' := 27) (v := nI 10) F dX6_init_25 (by decide) rfl ?_
  refine w_newrQ (pc' := 30) F m_X6_init_c20 (by omega) (by omega) (by omega) dX6_init_27 rfl (fun q24 h25 e26 a27 f28 => ?_)
  have g29 := fr3 _ _ (gnc (g_neN g15 e12) gn0) g19
  have g30 := f23 _ _ (gnc ((g_neN hx e3).symm) gn0) g29
  have g31 := f23 _ _ (gnc ((g_neN a8 e12).symm) gn0) hr3
  have g32 := f28 _ _ gn0 a22
  refine w_putfF (pc' := 33) F k_X6_init_6 tyX6_ok nmX6 g32 2 (by decide) m_X6_init_f22 rfl rfl rfl rfl rfl (show 2 < 10 by decide) [.ref q1, .ref q10, .ref q24, .null, .null, .null, .int (nI 0), .int (nI 0), .int (nI 0), .int (nI 0)] rfl dX6_init_30 rfl (fun h33 a34 f35 => ?_)
  refine v_aload_n (pc' := 34) F dX6_init_33 rfl (j := 0) rfl rfl ?_
  refine w_new (pc' := 37) F [.int (nI 0), .int (nI 0), .int (nI 0), .int (nI 0)] k_X6_init_2 tyX2_ok m_X6_init_c26 m_X6_init_in2 m_X6_init_ini2 (g_dv2 ) (by omega) (by omega) dX6_init_34 rfl (fun q36 h37 e38 a39 f40 => ?_)
  have g41 := f28 _ _ gn0 g30
  have g42 := f35 _ _ (gnc ((g_neN hx e3).symm) gn0) g41
  have g43 := f28 _ _ gn0 g31
  have g44 := f35 _ _ (gnc ((g_neN a8 e12).symm) gn0) g43
  have g45 := f35 _ _ (gnc ((g_neN a22 e26).symm) gn0) a27
  refine v_dup (pc' := 38) F dX6_init_37 rfl rfl ?_
  refine v_callIN (pc' := 41) (mcc := 0) (msc := 0) (As := []) (st := [.ref q36, .ref x]) F (fun l => c_X2_init G z0 l a39) gX6_init_X2_init_n28 rfl m_X6_init_ini2 (fun U h9 => h9.1.2.2) m_X6_init_imX2_init rfl hd_X2_init (by decide) (by decide) rfl rfl (Nat.le_of_ble_eq_true rfl) (by omega) (by omega) dX6_init_38 rfl (fun v47 h46 hq => ?_)
  obtain ⟨rfl, ho3, fo3⟩ := hq
  have g48 := f40 _ _ gn0 a34
  have g49 := f40 _ _ gn0 g42
  have g50 := f40 _ _ gn0 g44
  have g51 := f40 _ _ gn0 g45
  have g52 := fo3 _ _ (gnc (g_neN a34 e38) gn0) g48
  refine w_putfF (pc' := 44) F k_X6_init_6 tyX6_ok nmX6 g52 3 (by decide) m_X6_init_f29 rfl rfl rfl rfl rfl (show 3 < 10 by decide) [.ref q1, .ref q10, .ref q24, .ref q36, .null, .null, .int (nI 0), .int (nI 0), .int (nI 0), .int (nI 0)] rfl dX6_init_41 rfl (fun h53 a54 f55 => ?_)
  refine v_aload_n (pc' := 45) F dX6_init_44 rfl (j := 0) rfl rfl ?_
  refine v_bipush (pc' := 47) (v := nI 64) F dX6_init_45 (by decide) rfl ?_
  refine w_newaI (pc' := 49) F m_X6_init_acint (by omega) (by omega) (by omega) dX6_init_47 rfl (fun q56 h57 e58 a59 f60 => ?_)
  have g61 := fo3 _ _ (gnc (g_neN g42 e38) gn0) g49
  have g62 := f55 _ _ (gnc ((g_neN hx e3).symm) gn0) g61
  have g63 := fo3 _ _ (gnc (g_neN g44 e38) gn0) g50
  have g64 := f55 _ _ (gnc ((g_neN a8 e12).symm) gn0) g63
  have g65 := fo3 _ _ (gnc (g_neN g45 e38) gn0) g51
  have g66 := f55 _ _ (gnc ((g_neN a22 e26).symm) gn0) g65
  have g67 := f55 _ _ (gnc ((g_neN a34 e38).symm) gn0) ho3
  have g68 := f60 _ _ gn0 a54
  refine w_putfF (pc' := 52) F k_X6_init_6 tyX6_ok nmX6 g68 4 (by decide) m_X6_init_f33 rfl rfl rfl rfl rfl (show 4 < 10 by decide) [.ref q1, .ref q10, .ref q24, .ref q36, .ref q56, .null, .int (nI 0), .int (nI 0), .int (nI 0), .int (nI 0)] rfl dX6_init_49 rfl (fun h69 a70 f71 => ?_)
  refine v_aload_n (pc' := 53) F dX6_init_52 rfl (j := 0) rfl rfl ?_
  refine v_bipush (pc' := 55) (v := nI 64) F dX6_init_53 (by decide) rfl ?_
  refine w_newaI (pc' := 57) F m_X6_init_acint (by omega) (by omega) (by omega) dX6_init_55 rfl (fun q72 h73 e74 a75 f76 => ?_)
  have g77 := f60 _ _ gn0 g62
  have g78 := f71 _ _ (gnc ((g_neN hx e3).symm) gn0) g77
  have g79 := f60 _ _ gn0 g64
  have g80 := f71 _ _ (gnc ((g_neN a8 e12).symm) gn0) g79
  have g81 := f60 _ _ gn0 g66
  have g82 := f71 _ _ (gnc ((g_neN a22 e26).symm) gn0) g81
  have g83 := f60 _ _ gn0 g67
  have g84 := f71 _ _ (gnc ((g_neN a34 e38).symm) gn0) g83
  have g85 := f71 _ _ (gnc ((g_neN a54 e58).symm) gn0) a59
  have g86 := f76 _ _ gn0 a70
  refine w_putfF (pc' := 60) F k_X6_init_6 tyX6_ok nmX6 g86 5 (by decide) m_X6_init_f37 rfl rfl rfl rfl rfl (show 5 < 10 by decide) [.ref q1, .ref q10, .ref q24, .ref q36, .ref q56, .ref q72, .int (nI 0), .int (nI 0), .int (nI 0), .int (nI 0)] rfl dX6_init_57 rfl (fun h87 a88 f89 => ?_)
  refine v_aload_n (pc' := 61) F dX6_init_60 rfl (j := 0) rfl rfl ?_
  refine v_iconst (pc' := 62) (v := nI 0) F dX6_init_61 (by decide) rfl ?_
  refine w_putf (pc' := 65) F k_X6_init_6 tyX6_ok nmX6 a88 6 (by decide) m_X6_init_f40 rfl  rfl rfl (show 6 < 10 by decide) [.ref q1, .ref q10, .ref q24, .ref q36, .ref q56, .ref q72, .int (nI 0), .int (nI 0), .int (nI 0), .int (nI 0)] rfl dX6_init_62 rfl (fun h90 a91 f92 => ?_)
  refine v_aload_n (pc' := 66) F dX6_init_65 rfl (j := 0) rfl rfl ?_
  refine v_iconst (pc' := 67) (v := (-1)) F dX6_init_66 (by decide) rfl ?_
  refine w_putf (pc' := 70) F k_X6_init_6 tyX6_ok nmX6 a91 7 (by decide) m_X6_init_f44 rfl  rfl rfl (show 7 < 10 by decide) [.ref q1, .ref q10, .ref q24, .ref q36, .ref q56, .ref q72, .int (nI 0), .int (-1), .int (nI 0), .int (nI 0)] rfl dX6_init_67 rfl (fun h93 a94 f95 => ?_)
  refine v_aload_n (pc' := 71) F dX6_init_70 rfl (j := 0) rfl rfl ?_
  refine v_iconst (pc' := 72) (v := nI 0) F dX6_init_71 (by decide) rfl ?_
  refine w_putf (pc' := 75) F k_X6_init_6 tyX6_ok nmX6 a94 8 (by decide) m_X6_init_f47 rfl  rfl rfl (show 8 < 10 by decide) [.ref q1, .ref q10, .ref q24, .ref q36, .ref q56, .ref q72, .int (nI 0), .int (-1), .int (nI 0), .int (nI 0)] rfl dX6_init_72 rfl (fun h96 a97 f98 => ?_)
  refine v_aload_n (pc' := 76) F dX6_init_75 rfl (j := 0) rfl rfl ?_
  refine v_iconst (pc' := 77) (v := nI 0) F dX6_init_76 (by decide) rfl ?_
  refine w_putf (pc' := 80) F k_X6_init_6 tyX6_ok nmX6 a97 9 (by decide) m_X6_init_f50 rfl  rfl rfl (show 9 < 10 by decide) [.ref q1, .ref q10, .ref q24, .ref q36, .ref q56, .ref q72, .int (nI 0), .int (-1), .int (nI 0), .int (nI 0)] rfl dX6_init_77 rfl (fun h99 a100 f101 => ?_)
  refine w_new (pc' := 83) F [.null, .int (nI 0), .int (nI 0), .null, .null, .null, .int (nI 0), .int (nI 0), .int (nI 0)] k_X6_init_5 tyX5_ok m_X6_init_c53 m_X6_init_in5 m_X6_init_ini5 (g_dv5 ) (by omega) (by omega) dX6_init_80 rfl (fun q102 h103 e104 a105 f106 => ?_)
  have g107 := f76 _ _ gn0 g78
  have g108 := f89 _ _ (gnc ((g_neN hx e3).symm) gn0) g107
  have g109 := f92 _ _ (gnc ((g_neN hx e3).symm) gn0) g108
  have g110 := f95 _ _ (gnc ((g_neN hx e3).symm) gn0) g109
  have g111 := f98 _ _ (gnc ((g_neN hx e3).symm) gn0) g110
  have g112 := f101 _ _ (gnc ((g_neN hx e3).symm) gn0) g111
  have g113 := f76 _ _ gn0 g80
  have g114 := f89 _ _ (gnc ((g_neN a8 e12).symm) gn0) g113
  have g115 := f92 _ _ (gnc ((g_neN a8 e12).symm) gn0) g114
  have g116 := f95 _ _ (gnc ((g_neN a8 e12).symm) gn0) g115
  have g117 := f98 _ _ (gnc ((g_neN a8 e12).symm) gn0) g116
  have g118 := f101 _ _ (gnc ((g_neN a8 e12).symm) gn0) g117
  have g119 := f76 _ _ gn0 g82
  have g120 := f89 _ _ (gnc ((g_neN a22 e26).symm) gn0) g119
  have g121 := f92 _ _ (gnc ((g_neN a22 e26).symm) gn0) g120
  have g122 := f95 _ _ (gnc ((g_neN a22 e26).symm) gn0) g121
  have g123 := f98 _ _ (gnc ((g_neN a22 e26).symm) gn0) g122
  have g124 := f101 _ _ (gnc ((g_neN a22 e26).symm) gn0) g123
  have g125 := f76 _ _ gn0 g84
  have g126 := f89 _ _ (gnc ((g_neN a34 e38).symm) gn0) g125
  have g127 := f92 _ _ (gnc ((g_neN a34 e38).symm) gn0) g126
  have g128 := f95 _ _ (gnc ((g_neN a34 e38).symm) gn0) g127
  have g129 := f98 _ _ (gnc ((g_neN a34 e38).symm) gn0) g128
  have g130 := f101 _ _ (gnc ((g_neN a34 e38).symm) gn0) g129
  have g131 := f76 _ _ gn0 g85
  have g132 := f89 _ _ (gnc ((g_neN a54 e58).symm) gn0) g131
  have g133 := f92 _ _ (gnc ((g_neN a54 e58).symm) gn0) g132
  have g134 := f95 _ _ (gnc ((g_neN a54 e58).symm) gn0) g133
  have g135 := f98 _ _ (gnc ((g_neN a54 e58).symm) gn0) g134
  have g136 := f101 _ _ (gnc ((g_neN a54 e58).symm) gn0) g135
  have g137 := f89 _ _ (gnc ((g_neN a70 e74).symm) gn0) a75
  have g138 := f92 _ _ (gnc ((g_neN a70 e74).symm) gn0) g137
  have g139 := f95 _ _ (gnc ((g_neN a70 e74).symm) gn0) g138
  have g140 := f98 _ _ (gnc ((g_neN a70 e74).symm) gn0) g139
  have g141 := f101 _ _ (gnc ((g_neN a70 e74).symm) gn0) g140
  refine v_dup (pc' := 84) F dX6_init_83 rfl rfl ?_
  refine v_null (pc' := 85) F dX6_init_84 rfl ?_
  refine v_iconst (pc' := 86) (v := (-1)) F dX6_init_85 (by decide) rfl ?_
  have g142 := f106 _ _ gn0 a100
  have g143 := f106 _ _ gn0 g112
  have g144 := f106 _ _ gn0 g118
  have g145 := f106 _ _ gn0 g124
  have g146 := f106 _ _ gn0 g130
  have g147 := f106 _ _ gn0 g136
  have g148 := f106 _ _ gn0 g141
  refine v_callI (pc' := 89) (mcc := 1) (msc := 6) (As := [.null, .int (-1)]) (st := [.ref q102]) F (fun l => c_X5_init0 G z0 l (-1) a105) gX6_init_X5_init rfl m_X6_init_ini5 m_X6_init_ml55 m_X6_init_imX5_init rfl hd_X5_init (by decide) (by decide) rfl rfl (Nat.le_of_ble_eq_true rfl) (by omega) (by omega) dX6_init_86 rfl (fun v150 h149 hq => ?_)
  obtain ⟨rfl, tt, hVt, fV, htn⟩ := hq
  obtain ⟨fsr, hkr⟩ := hVt.kind
  refine v_astore_n (pc' := 90) (i := 1) (L' := [(1, .ref q102), (0, .ref x)]) F dX6_init_89 rfl (by decide) rfl rfl ?_
  refine v_iconst (pc' := 91) (v := nI 0) F dX6_init_90 (by decide) rfl ?_
  refine v_istore_n (pc' := 92) (i := 2) (L' := [(2, .int (nI 0)), (1, .ref q102), (0, .ref x)]) F dX6_init_91 rfl (by decide) rfl rfl ?_
  refine v_sub (L' := [(2, .int (nI 0)), (1, .ref q102), (0, .ref x)]) [0, 1, 2] rfl ?_
  have g151 := fV _ _ (gnc (g_neN a100 e104) gn0) g142
  have g152 := fV _ _ (gnc (g_neN g124 e104) gn0) g145
  have g153 := fV _ _ (gnc (g_neN g112 e104) gn0) g143
  have g154 := fV _ _ (gnc (g_neN g118 e104) gn0) g144
  have g155 := fV _ _ (gnc (g_neN g130 e104) gn0) g146
  have g156 := fV _ _ (gnc (g_neN g136 e104) gn0) g147
  have g157 := fV _ _ (gnc (g_neN g141 e104) gn0) g148
  refine lp_X6_init (l := l) (m := 10) (i := 0) (bk := fun _ => 0) (bv := fun _ => 0) F E g151 g152 hkr (fun j hj => absurd hj (by omega)) ⟨fun j hj => absurd hj (by omega), fun j k hj => absurd hj (by omega), fun j k hj => absurd hj (by omega)⟩ rfl (by omega) (by omega) (fun h9 fb9 bk9 bv9 fr9 hk9 hf9 hT9 => ?_)
  have fr159 : gfr [q10, q36, q102, q24, x] h h9 := (gfr.t (gfr.mono0 f5) (gfr.t (gfr.mono f9 (by intro q9 z9 m9; apply z9; simp only [List.mem_cons, List.not_mem_nil, or_false] at m9 ⊢; omega)) (gfr.t (gfr.mono0 f14) (gfr.t (gfr.mono fr3 (by intro q9 z9 m9; apply z9; simp only [List.mem_cons, List.not_mem_nil, or_false] at m9 ⊢; omega)) (gfr.t (gfr.mono f23 (by intro q9 z9 m9; apply z9; simp only [List.mem_cons, List.not_mem_nil, or_false] at m9 ⊢; omega)) (gfr.t (gfr.mono0 f28) (gfr.t (gfr.mono f35 (by intro q9 z9 m9; apply z9; simp only [List.mem_cons, List.not_mem_nil, or_false] at m9 ⊢; omega)) (gfr.t (gfr.mono0 f40) (gfr.t (gfr.mono fo3 (by intro q9 z9 m9; apply z9; simp only [List.mem_cons, List.not_mem_nil, or_false] at m9 ⊢; omega)) (gfr.t (gfr.mono f55 (by intro q9 z9 m9; apply z9; simp only [List.mem_cons, List.not_mem_nil, or_false] at m9 ⊢; omega)) (gfr.t (gfr.mono0 f60) (gfr.t (gfr.mono f71 (by intro q9 z9 m9; apply z9; simp only [List.mem_cons, List.not_mem_nil, or_false] at m9 ⊢; omega)) (gfr.t (gfr.mono0 f76) (gfr.t (gfr.mono f89 (by intro q9 z9 m9; apply z9; simp only [List.mem_cons, List.not_mem_nil, or_false] at m9 ⊢; omega)) (gfr.t (gfr.mono f92 (by intro q9 z9 m9; apply z9; simp only [List.mem_cons, List.not_mem_nil, or_false] at m9 ⊢; omega)) (gfr.t (gfr.mono f95 (by intro q9 z9 m9; apply z9; simp only [List.mem_cons, List.not_mem_nil, or_false] at m9 ⊢; omega)) (gfr.t (gfr.mono f98 (by intro q9 z9 m9; apply z9; simp only [List.mem_cons, List.not_mem_nil, or_false] at m9 ⊢; omega)) (gfr.t (gfr.mono f101 (by intro q9 z9 m9; apply z9; simp only [List.mem_cons, List.not_mem_nil, or_false] at m9 ⊢; omega)) (gfr.t (gfr.mono0 f106) (gfr.t (gfr.mono fV (by intro q9 z9 m9; apply z9; simp only [List.mem_cons, List.not_mem_nil, or_false] at m9 ⊢; omega)) (gfr.mono fr9 (by intro q9 z9 m9; apply z9; simp only [List.mem_cons, List.not_mem_nil, or_false] at m9 ⊢; omega))))))))))))))))))))))
  have fr160 : gfr [x] h h7 := (gfr.t (gfr.mono0 f5) f9)
  have e161 := gfr.non fr160 e12 (gnc ((g_neN a8 e12).symm) gn0)
  have fr162 := gfr.drop e161 fr159
  have fr163 : gfr [x, q10] h h33 := (gfr.t (gfr.mono0 f5) (gfr.t (gfr.mono f9 (by intro q9 z9 m9; apply z9; simp only [List.mem_cons, List.not_mem_nil, or_false] at m9 ⊢; omega)) (gfr.t (gfr.mono0 f14) (gfr.t (gfr.mono fr3 (by intro q9 z9 m9; apply z9; simp only [List.mem_cons, List.not_mem_nil, or_false] at m9 ⊢; omega)) (gfr.t (gfr.mono f23 (by intro q9 z9 m9; apply z9; simp only [List.mem_cons, List.not_mem_nil, or_false] at m9 ⊢; omega)) (gfr.t (gfr.mono0 f28) (gfr.mono f35 (by intro q9 z9 m9; apply z9; simp only [List.mem_cons, List.not_mem_nil, or_false] at m9 ⊢; omega))))))))
  have e164 := gfr.non fr163 e38 (gnc ((g_neN a34 e38).symm) (gnc ((g_neN g44 e38).symm) gn0))
  have fr165 := gfr.drop e164 fr162
  have fr166 : gfr [x, q10, q36] h h99 := (gfr.t (gfr.mono0 f5) (gfr.t (gfr.mono f9 (by intro q9 z9 m9; apply z9; simp only [List.mem_cons, List.not_mem_nil, or_false] at m9 ⊢; omega)) (gfr.t (gfr.mono0 f14) (gfr.t (gfr.mono fr3 (by intro q9 z9 m9; apply z9; simp only [List.mem_cons, List.not_mem_nil, or_false] at m9 ⊢; omega)) (gfr.t (gfr.mono f23 (by intro q9 z9 m9; apply z9; simp only [List.mem_cons, List.not_mem_nil, or_false] at m9 ⊢; omega)) (gfr.t (gfr.mono0 f28) (gfr.t (gfr.mono f35 (by intro q9 z9 m9; apply z9; simp only [List.mem_cons, List.not_mem_nil, or_false] at m9 ⊢; omega)) (gfr.t (gfr.mono0 f40) (gfr.t (gfr.mono fo3 (by intro q9 z9 m9; apply z9; simp only [List.mem_cons, List.not_mem_nil, or_false] at m9 ⊢; omega)) (gfr.t (gfr.mono f55 (by intro q9 z9 m9; apply z9; simp only [List.mem_cons, List.not_mem_nil, or_false] at m9 ⊢; omega)) (gfr.t (gfr.mono0 f60) (gfr.t (gfr.mono f71 (by intro q9 z9 m9; apply z9; simp only [List.mem_cons, List.not_mem_nil, or_false] at m9 ⊢; omega)) (gfr.t (gfr.mono0 f76) (gfr.t (gfr.mono f89 (by intro q9 z9 m9; apply z9; simp only [List.mem_cons, List.not_mem_nil, or_false] at m9 ⊢; omega)) (gfr.t (gfr.mono f92 (by intro q9 z9 m9; apply z9; simp only [List.mem_cons, List.not_mem_nil, or_false] at m9 ⊢; omega)) (gfr.t (gfr.mono f95 (by intro q9 z9 m9; apply z9; simp only [List.mem_cons, List.not_mem_nil, or_false] at m9 ⊢; omega)) (gfr.t (gfr.mono f98 (by intro q9 z9 m9; apply z9; simp only [List.mem_cons, List.not_mem_nil, or_false] at m9 ⊢; omega)) (gfr.mono f101 (by intro q9 z9 m9; apply z9; simp only [List.mem_cons, List.not_mem_nil, or_false] at m9 ⊢; omega)))))))))))))))))))
  have e167 := gfr.non fr166 e104 (gnc ((g_neN a100 e104).symm) (gnc ((g_neN g118 e104).symm) (gnc ((g_neN g130 e104).symm) gn0)))
  have fr168 := gfr.drop e167 fr165
  have fr169 : gfr [x, q10] h h21 := (gfr.t (gfr.mono0 f5) (gfr.t (gfr.mono f9 (by intro q9 z9 m9; apply z9; simp only [List.mem_cons, List.not_mem_nil, or_false] at m9 ⊢; omega)) (gfr.t (gfr.mono0 f14) (gfr.t (gfr.mono fr3 (by intro q9 z9 m9; apply z9; simp only [List.mem_cons, List.not_mem_nil, or_false] at m9 ⊢; omega)) (gfr.mono f23 (by intro q9 z9 m9; apply z9; simp only [List.mem_cons, List.not_mem_nil, or_false] at m9 ⊢; omega))))))
  have e170 := gfr.non fr169 e26 (gnc ((g_neN a22 e26).symm) (gnc ((g_neN g31 e26).symm) gn0))
  have fr158 := gfr.drop e170 fr168
  have g171 := fr9 _ _ (gnc (g_neN a22 e26) gn0) g151
  have g172 := fr9 _ _ (gnc (g_neN g30 e26) gn0) g153
  have g173 := fr9 _ _ (gnc (g_neN g31 e26) gn0) g154
  have g174 := fr9 _ _ (gnc ((g_neN g66 e58).symm) gn0) g156
  have g175 := fr9 _ _ (gnc ((g_neN g82 e74).symm) gn0) g157
  have g176 := fr9 _ _ (gnc ((g_neN g45 e38).symm) gn0) g155
  exact ⟨rfl, q1, q10, q24, q36, q56, q72, q102, bk9, bv9, ⟨g171, fb9, hk9, hf9⟩, g172, ⟨_, _, _, none, none, 0, 0, 0, 0, 1, by omega, g173⟩, ⟨⟨_, g174⟩, ⟨_, g175⟩, _, _, _, _, g176⟩, (g_neN g85 e74), ⟨tt, hVt.pv (gfr.pv fr9 (by intro a9 m9 ci9 fs9 c9 z9; rw [List.mem_singleton.mp m9, g152] at z9; cases z9))⟩, hT9, fr158⟩
