/-! THE REFERENCE: the nearest version that two share -/
def alF (D : Dt) : Nat → Nat → List Nat
  | 0, v => [v]
  | k + 1, v => v :: alF D k (D.2.2.2.1 v)
/-- a version and those that it was made from -/
def alD (D : Dt) (v : Nat) : List Nat := alF D (D.2.2.2.2 v).length v
def cmF (ys : List Nat) : List Nat → Nat
  | [] => 0
  | x :: xs => if x ∈ ys then x else cmF ys xs
theorem alD_root {D : Dt} (w9 : wfD D) : alD D 0 = [0] := by
  unfold alD
  rw [w9.2.2.2.2.1]
  rfl
theorem alD_up {D : Dt} (w9 : wfD D) {v : Nat} (h0 : 0 < v) (hv : v < D.1) : alD D v = v :: alD D (D.2.2.2.1 v) ∧ D.2.2.2.1 v < v ∧ (D.2.2.2.2 v).length = (D.2.2.2.2 (D.2.2.2.1 v)).length + 1 := by
  obtain ⟨a, ⟨o, e⟩, -⟩ := w9.2.2.2.2.2 v h0 hv
  refine ⟨?_, a, by rw [e]; rfl⟩
  unfold alD
  rw [e]
  rfl
theorem alD_mem {D : Dt} (w9 : wfD D) : ∀ (k : Nat) {v x : Nat}, v < k → v < D.1 → x ∈ alD D v → x = v ∨ (D.2.2.2.2 x).length < (D.2.2.2.2 v).length
  | 0, _, _, h, _, _ => absurd h (Nat.not_lt_zero _)
  | k + 1, v, x, h, hv, hx => by
    rcases Nat.eq_zero_or_pos v with e | e
    · subst e
      rw [alD_root w9] at hx
      exact .inl (List.mem_singleton.mp hx)
    · obtain ⟨a, b, c⟩ := alD_up w9 e hv
      rw [a] at hx
      rcases List.mem_cons.mp hx with hx | hx
      · exact .inl hx
      · rcases alD_mem w9 k (by omega) (by omega) hx with z | z
        · subst z
          exact .inr (by omega)
        · exact .inr (by omega)
theorem alD_self {D : Dt} (v : Nat) : v ∈ alD D v := by
  unfold alD
  cases (D.2.2.2.2 v).length with
  | zero => exact List.mem_singleton.mpr rfl
  | succ k => exact List.mem_cons_self
theorem cmF_congr {ys zs : List Nat} : ∀ {xs : List Nat}, (∀ x, x ∈ xs → (x ∈ ys ↔ x ∈ zs)) → cmF ys xs = cmF zs xs
  | [], _ => rfl
  | x :: xs, h => by
    unfold cmF
    have e := h x List.mem_cons_self
    have ih := cmF_congr (xs := xs) (ys := ys) (zs := zs) (fun y hy => h y (List.mem_cons_of_mem _ hy))
    by_cases hx : x ∈ ys
    · rw [if_pos hx, if_pos (e.mp hx)]
    · rw [if_neg hx, if_neg (fun z => hx (e.mpr z)), ih]
theorem cmF_self {D : Dt} (a : Nat) : cmF (alD D a) (alD D a) = a := by
  have h := alD_self (D := D) a
  unfold alD at h ⊢
  cases e : (D.2.2.2.2 a).length with
  | zero => rw [e] at h; show (if a ∈ [a] then a else _) = a; rw [if_pos (List.mem_singleton.mpr rfl)]
  | succ k => rw [e] at h; show (if a ∈ a :: alF D k (D.2.2.2.1 a) then a else _) = a; rw [if_pos List.mem_cons_self]
theorem cm_a {D : Dt} (w9 : wfD D) {a b : Nat} (ha : a < D.1) (hb : b < D.1) (hne : a ≠ b) (hd : (D.2.2.2.2 b).length ≤ (D.2.2.2.2 a).length) : 0 < a ∧ cmF (alD D b) (alD D a) = cmF (alD D b) (alD D (D.2.2.2.1 a)) := by
  have h0 : 0 < a := by
    rcases Nat.eq_zero_or_pos a with e | e
    · exfalso
      subst e
      rw [w9.2.2.2.2.1] at hd
      rcases Nat.eq_zero_or_pos b with e2 | e2
      · exact hne e2.symm
      · have := (alD_up w9 e2 hb).2.2
        rw [List.length_nil] at hd
        omega
    · exact e
  refine ⟨h0, ?_⟩
  rw [(alD_up w9 h0 ha).1]
  show (if a ∈ alD D b then a else _) = _
  rw [if_neg (fun z => by
    rcases alD_mem w9 (b + 1) (Nat.lt_succ_self b) hb z with e | e
    · exact hne e
    · omega)]
theorem cm_b {D : Dt} (w9 : wfD D) {a b : Nat} (ha : a < D.1) (hb : b < D.1) (hd : (D.2.2.2.2 a).length < (D.2.2.2.2 b).length) : 0 < b ∧ cmF (alD D b) (alD D a) = cmF (alD D (D.2.2.2.1 b)) (alD D a) := by
  have h0 : 0 < b := by
    rcases Nat.eq_zero_or_pos b with e | e
    · exfalso
      subst e
      rw [w9.2.2.2.2.1] at hd
      exact absurd hd (Nat.not_lt_zero _)
    · exact e
  refine ⟨h0, cmF_congr (fun x hx => ?_)⟩
  rw [(alD_up w9 h0 hb).1]
  constructor
  · intro z
    rcases List.mem_cons.mp z with e | e
    · exfalso
      subst e
      rcases alD_mem w9 (a + 1) (Nat.lt_succ_self a) ha hx with e | e
      · subst e
        omega
      · omega
    · exact e
  · exact fun z => List.mem_cons_of_mem _ z
set_option maxHeartbeats 4000000 in
set_option maxRecDepth 100000 in
theorem lp_X7_common {G : gG} {z0 : Nat} {X : gX} {l : Launch} {post : Option Value → gH → Prop} {mc ms cells slots N a b x y : Nat} {h : gH} {m rows asd now vals many way told oth lst text : Nat} {th und fl rl kd ok st wm fed len spot fa fat num frm may : Int32} {R : Nat → Int32} {D : Dt} (F : gF G z0 X cX7_common 5 RX7 wsX7_common (some .int) "common" 3 62 mc ms) (E : gE G z0 X post mc ms) (hcc : cells ≤ mc) (hss : slots ≤ ms) (hm : h m = some (.inr (7, [.int th, .ref rows, .ref asd, .int (nI now), .int und, .ref vals, .ref many, .int fl, .int rl, .int kd, .int ok, .int st, .ref way, .int wm, .ref told, .ref oth, .ref lst, .ref text, .int fed, .int len, .int spot, .int fa, .int fat, .int num, .int frm, .int may]))) (hrows : h rows = some (oI G 2970 R)) (hnow : now < 9) (w9 : wfD D) (hS : slD R (330 * now) D) (ha : a < D.1) (hb : b < D.1) (hN : (D.2.2.2.2 a).length + (D.2.2.2.2 b).length ≤ N) (hp : post (some (.int (nI (cmF (alD D b) (alD D a))))) h) : gV G z0 X cells slots h 41 [(4, .int (nI b)), (3, .int (nI a)), (2, .int (nI y)), (1, .int (nI x)), (0, .ref m)] [] := by
  have hn64 := w9.2.1
  induction N generalizing a b with
  | zero =>
    refine v_iload_n (pc' := 42) F dX7_common_41 rfl (j := 1) rfl rfl ?_
    refine v_iload (pc' := 44) F dX7_common_42  (j := 0) rfl rfl ?_
    refine w_icmp_eq (tgt := 85) (pc' := 47) F (by omega) (by omega) dX7_common_44 (by decide) rfl (fun c0 => ?_) (fun c0 => ?_)
    · subst c0
      refine v_iload_n (pc' := 86) F dX7_common_85 rfl (j := 1) rfl rfl ?_
      exact v_iret F E (by omega) (by omega)  dX7_common_86 (by rw [cmF_self] at hp; exact hp)
    · have hz := cm_a w9 ha hb c0 (by omega)
      have := (alD_up w9 hz.1 ha).2.2
      exact absurd hN (by omega)
  | succ N ih =>
    refine v_iload_n (pc' := 42) F dX7_common_41 rfl (j := 1) rfl rfl ?_
    refine v_iload (pc' := 44) F dX7_common_42  (j := 0) rfl rfl ?_
    refine w_icmp_eq (tgt := 85) (pc' := 47) F (by omega) (by omega) dX7_common_44 (by decide) rfl (fun c0 => ?_) (fun c0 => ?_)
    · subst c0
      refine v_iload_n (pc' := 86) F dX7_common_85 rfl (j := 1) rfl rfl ?_
      exact v_iret F E (by omega) (by omega)  dX7_common_86 (by rw [cmF_self] at hp; exact hp)
    · have hla := (w9.os ha).2
      have hlb := (w9.os hb).2
      obtain ⟨ha0, -, -, ha3, -⟩ := hS.2.2.2 a ha
      obtain ⟨hb0, -, -, hb3, -⟩ := hS.2.2.2 b hb
      refine v_aload_n (pc' := 48) F dX7_common_47 rfl (j := 4) rfl rfl ?_
      refine v_iload_n (pc' := 49) F dX7_common_48 rfl (j := 1) rfl rfl ?_
      refine v_iconst (pc' := 50) (v := nI 3) F dX7_common_49 (by decide) rfl ?_
      have y1 := ha3
      refine v_callV (pc' := 53) (rt := (some .int)) (mcc := 0) (msc := 0) (As := [.int (nI a), .int (nI 3)]) (st := []) F (fun l => c_X7_of G z0 l (v := a) (w := 3) hm hrows hnow (by omega) (by omega)) gX7_common_X7_of rfl hv_X7_of (by decide) (by decide) hm rfl rfl rfl (Nat.le_of_ble_eq_true rfl) (by omega) (by omega) dX7_common_50 rfl (fun v2 h hqo => ?_)
      rw [y1] at hqo; obtain ⟨rfl, rfl⟩ := hqo
      refine v_aload_n (pc' := 54) F dX7_common_53 rfl (j := 4) rfl rfl ?_
      refine v_iload (pc' := 56) F dX7_common_54  (j := 0) rfl rfl ?_
      refine v_iconst (pc' := 57) (v := nI 3) F dX7_common_56 (by decide) rfl ?_
      have y3 := hb3
      refine v_callV (pc' := 60) (rt := (some .int)) (mcc := 0) (msc := 0) (As := [.int (nI b), .int (nI 3)]) (st := [.int (nI ((D.2.2.2.2 a).length))]) F (fun l => c_X7_of G z0 l (v := b) (w := 3) hm hrows hnow (by omega) (by omega)) gX7_common_X7_of rfl hv_X7_of (by decide) (by decide) hm rfl rfl rfl (Nat.le_of_ble_eq_true rfl) (by omega) (by omega) dX7_common_57 rfl (fun v4 h hqo => ?_)
      rw [y3] at hqo; obtain ⟨rfl, rfl⟩ := hqo
      refine w_icmp_lt (tgt := 73) (pc' := 63) F (by omega) (by omega) dX7_common_60 (by decide) rfl (fun c1 => ?_) (fun c1 => ?_)
      · obtain ⟨hz, he⟩ := cm_b w9 ha hb c1
        obtain ⟨hu1, hu2, hu3⟩ := alD_up w9 hz hb
        have hpI : parI D b = nI (D.2.2.2.1 b) := if_neg (by omega)
        rw [hpI] at hb0
        refine v_aload_n (pc' := 74) F dX7_common_73 rfl (j := 4) rfl rfl ?_
        refine v_iload (pc' := 76) F dX7_common_74  (j := 0) rfl rfl ?_
        refine v_iconst (pc' := 77) (v := nI 0) F dX7_common_76 (by decide) rfl ?_
        have y5 := hb0
        refine v_callV (pc' := 80) (rt := (some .int)) (mcc := 0) (msc := 0) (As := [.int (nI b), .int (nI 0)]) (st := []) F (fun l => c_X7_of G z0 l (v := b) (w := 0) hm hrows hnow (by omega) (by omega)) gX7_common_X7_of rfl hv_X7_of (by decide) (by decide) hm rfl rfl rfl (Nat.le_of_ble_eq_true rfl) (by omega) (by omega) dX7_common_77 rfl (fun v6 h hqo => ?_)
        rw [y5] at hqo; obtain ⟨rfl, rfl⟩ := hqo
        refine v_istore (pc' := 82) (i := 4) (L' := [(4, .int (nI (D.2.2.2.1 b))), (3, .int (nI a)), (2, .int (nI y)), (1, .int (nI x)), (0, .ref m)]) F dX7_common_80  (by decide) rfl rfl ?_
        refine v_goto (tgt := 41) F dX7_common_82 (by decide) ?_
        refine v_sub (L' := [(4, .int (nI (D.2.2.2.1 b))), (3, .int (nI a)), (2, .int (nI y)), (1, .int (nI x)), (0, .ref m)]) [0, 1, 2, 3, 4] rfl ?_
        exact ih (a := a) (b := D.2.2.2.1 b) ha (by omega) (by omega) (by rw [← he]; exact hp)
      · obtain ⟨hz, he⟩ := cm_a w9 ha hb c0 (by omega)
        obtain ⟨hu1, hu2, hu3⟩ := alD_up w9 hz ha
        have hpI : parI D a = nI (D.2.2.2.1 a) := if_neg (by omega)
        rw [hpI] at ha0
        refine v_aload_n (pc' := 64) F dX7_common_63 rfl (j := 4) rfl rfl ?_
        refine v_iload_n (pc' := 65) F dX7_common_64 rfl (j := 1) rfl rfl ?_
        refine v_iconst (pc' := 66) (v := nI 0) F dX7_common_65 (by decide) rfl ?_
        have y7 := ha0
        refine v_callV (pc' := 69) (rt := (some .int)) (mcc := 0) (msc := 0) (As := [.int (nI a), .int (nI 0)]) (st := []) F (fun l => c_X7_of G z0 l (v := a) (w := 0) hm hrows hnow (by omega) (by omega)) gX7_common_X7_of rfl hv_X7_of (by decide) (by decide) hm rfl rfl rfl (Nat.le_of_ble_eq_true rfl) (by omega) (by omega) dX7_common_66 rfl (fun v8 h hqo => ?_)
        rw [y7] at hqo; obtain ⟨rfl, rfl⟩ := hqo
        refine v_istore_n (pc' := 70) (i := 3) (L' := [(3, .int (nI (D.2.2.2.1 a))), (4, .int (nI b)), (2, .int (nI y)), (1, .int (nI x)), (0, .ref m)]) F dX7_common_69 rfl (by decide) rfl rfl ?_
        refine v_goto (tgt := 41) F dX7_common_70 (by decide) ?_
        refine v_sub (L' := [(4, .int (nI b)), (3, .int (nI (D.2.2.2.1 a))), (2, .int (nI y)), (1, .int (nI x)), (0, .ref m)]) [1, 0, 2, 3, 4] rfl ?_
        exact ih (a := D.2.2.2.1 a) (b := b) (by omega) hb (by omega) (by rw [← he]; exact hp)
set_option maxHeartbeats 4000000 in
set_option maxRecDepth 100000 in
theorem c_X7_common (G : gG) (z0 : Nat) (l : Launch) {h : gH} {m rows asd vals many way told oth lst text now : Nat} {th und fed len spot fa fat num frm may : Int32} {R : Nat → Int32} {D : Dt} {j jb : Nat} (hMS : mS G h m rows asd vals many way told oth lst text th now und fed len spot fa fat num frm may R) (hnow : now < 9) (w9 : wfD D) (hS : slD R (330 * now) D) (hj : j < D.1) (hjb : jb < D.1) : gC G z0 l yX7_common wsX7_common 3 62 [.ref m, .int (nI j), .int (nI jb)] h (fun o h' => o = some (.int (nI (cmF (alD D jb) (alD D j)))) ∧ mS G h' m rows asd vals many way told oth lst text (nI 0) now und fed len spot fa fat num frm may R ∧ gfr [m, vals, many, way, told, oth, lst] h h') 0 0 := by
  have h1n := w9.1
  have hn64 := w9.2.1
  have hMS0 := hMS
  obtain ⟨fl, rl, kd, ok, st, wm, hm, hrows, ⟨V, hvals⟩, ⟨M, hmany⟩, ⟨W, hway⟩, ⟨f, htold⟩, ⟨g, hoth⟩, ⟨ll, hlst⟩, htw, how, hto⟩ := hMS
  refine gC_of (cc := cX7_common) (nL := 5) (ret := (some .int)) (by decide) rfl (Nat.le_of_ble_eq_true rfl) ?_
  intro X F E _
  change gF G z0 X cX7_common 5 RX7 wsX7_common (some .int) "common" 3 62 _ _ at F
  show gV G z0 X 0 0 h 0 [(0, .ref m), (1, .int (nI j)), (2, .int (nI jb))] []
  refine v_aload_n (pc' := 1) F dX7_common_0 rfl (j := 0) rfl rfl ?_
  refine v_iconst (pc' := 2) (v := nI 0) F dX7_common_1 (by decide) rfl ?_
  refine w_putf (pc' := 5) F k_X7_common_7 tyX7_ok nmX7 hm 0 (by decide) m_X7_common_f44 rfl  rfl rfl (show 0 < 26 by decide) [.int (nI 0), .ref rows, .ref asd, .int (nI now), .int und, .ref vals, .ref many, .int fl, .int rl, .int kd, .int ok, .int st, .ref way, .int wm, .ref told, .ref oth, .ref lst, .ref text, .int fed, .int len, .int spot, .int fa, .int fat, .int num, .int frm, .int may] rfl dX7_common_2 rfl (fun h1 a2 f3 => ?_)
  refine v_aload_n (pc' := 6) F dX7_common_5 rfl (j := 0) rfl rfl ?_
  refine v_aload_n (pc' := 7) F dX7_common_6 rfl (j := 0) rfl rfl ?_
  refine v_iload_n (pc' := 8) F dX7_common_7 rfl (j := 1) rfl rfl ?_
  have hv9j : nI 0 ≤ nI j ∧ nI j ≤ nI (D.1 - 1) := (bR_iff h1n (by omega)).mpr ⟨j, hj, rfl⟩
  have g4 := f3 _ _ (gnc (Ne.symm (g_neA hm hrows)) gn0) hrows
  refine v_callV (pc' := 11) (rt := (some .boolean)) (mcc := 0) (msc := 0) (As := [.int (nI j)]) (st := [.ref m]) F (fun l => c_X7_isVersion G z0 l (nI j) a2 g4 hnow hS.1 h1n hn64) gX7_common_X7_isVersion rfl hv_X7_isVersion (by decide) (by decide) a2 rfl rfl rfl (Nat.le_of_ble_eq_true rfl) (by omega) (by omega) dX7_common_8 rfl (fun v5 h1 hqv => ?_)
  rw [if_pos hv9j] at hqv; obtain ⟨rfl, rfl⟩ := hqv
  refine w_if_eq (tgt := 26) (pc' := 14) F (by omega) dX7_common_11 (by decide) rfl (fun c0 => absurd c0 (by omega)) (fun _ => ?_)
  refine v_aload_n (pc' := 15) F dX7_common_14 rfl (j := 0) rfl rfl ?_
  refine v_iload_n (pc' := 16) F dX7_common_15 rfl (j := 2) rfl rfl ?_
  have hv9jb : nI 0 ≤ nI jb ∧ nI jb ≤ nI (D.1 - 1) := (bR_iff h1n (by omega)).mpr ⟨jb, hjb, rfl⟩
  refine v_callV (pc' := 19) (rt := (some .boolean)) (mcc := 0) (msc := 0) (As := [.int (nI jb)]) (st := [.ref m]) F (fun l => c_X7_isVersion G z0 l (nI jb) a2 g4 hnow hS.1 h1n hn64) gX7_common_X7_isVersion rfl hv_X7_isVersion (by decide) (by decide) a2 rfl rfl rfl (Nat.le_of_ble_eq_true rfl) (by omega) (by omega) dX7_common_16 rfl (fun v6 h1 hqv => ?_)
  rw [if_pos hv9jb] at hqv; obtain ⟨rfl, rfl⟩ := hqv
  refine w_if_eq (tgt := 26) (pc' := 22) F (by omega) dX7_common_19 (by decide) rfl (fun c0 => absurd c0 (by omega)) (fun _ => ?_)
  refine v_iconst (pc' := 23) (v := nI 1) F dX7_common_22 (by decide) rfl ?_
  refine v_goto (tgt := 27) F dX7_common_23 (by decide) ?_
  refine v_iconst (pc' := 28) (v := nI 1) F dX7_common_27 (by decide) rfl ?_
  refine v_callV (pc' := 31) (rt := (some .boolean)) (mcc := 0) (msc := 0) (As := [.int (nI 1), .int (nI 1)]) (st := []) F (fun l => c_X7_right1 G z0 l (th := nI 0) (nI 1) (by decide) a2) gX7_common_X7_right rfl hv_X7_right (by decide) (by decide) a2 rfl rfl rfl (Nat.le_of_ble_eq_true rfl) (by omega) (by omega) dX7_common_28 rfl (fun v7 h1 hqr => ?_)
  obtain ⟨rfl, rfl⟩ := hqr
  refine w_if_ne (tgt := 36) (pc' := 34) F (by omega) dX7_common_31 (by decide) rfl (fun _ => ?_) (fun c0 => absurd c0 (by omega))
  refine v_iload_n (pc' := 37) F dX7_common_36 rfl (j := 1) rfl rfl ?_
  refine v_istore_n (pc' := 38) (i := 3) (L' := [(3, .int (nI j)), (0, .ref m), (1, .int (nI j)), (2, .int (nI jb))]) F dX7_common_37 rfl (by decide) rfl rfl ?_
  refine v_iload_n (pc' := 39) F dX7_common_38 rfl (j := 3) rfl rfl ?_
  refine v_istore (pc' := 41) (i := 4) (L' := [(4, .int (nI jb)), (3, .int (nI j)), (0, .ref m), (1, .int (nI j)), (2, .int (nI jb))]) F dX7_common_39  (by decide) rfl rfl ?_
  refine v_sub (L' := [(4, .int (nI jb)), (3, .int (nI j)), (2, .int (nI jb)), (1, .int (nI j)), (0, .ref m)]) [0, 1, 4, 3, 2] rfl ?_
  have fr8 : gfr [m, vals, many, way, told, oth, lst] h h1 := (gfr.mono f3 (by intro q9 z9 m9; apply z9; simp only [List.mem_cons, List.not_mem_nil, or_false] at m9 ⊢; omega))
  have g9 := f3 _ _ (gnc (Ne.symm (g_neA hm hvals)) gn0) hvals
  have g10 := f3 _ _ (gnc (Ne.symm (g_neA hm hmany)) gn0) hmany
  have g11 := f3 _ _ (gnc (Ne.symm (g_neA hm hway)) gn0) hway
  have g12 := f3 _ _ (gnc (Ne.symm (g_neA hm htold)) gn0) htold
  have g13 := f3 _ _ (gnc (Ne.symm (g_neA hm hoth)) gn0) hoth
  have g14 := f3 _ _ (gnc (Ne.symm (g_neA hm hlst)) gn0) hlst
  exact lp_X7_common (l := l) (N := (D.2.2.2.2 j).length + (D.2.2.2.2 jb).length) F E (by omega) (by omega) a2 g4 hnow w9 hS hj hjb (Nat.le_refl _) ⟨rfl, ⟨_, _, _, _, _, _, a2, g4, ⟨_, g9⟩, ⟨_, g10⟩, ⟨_, g11⟩, ⟨_, g12⟩, ⟨_, g13⟩, ⟨_, g14⟩, htw, how, hto⟩, fr8⟩
