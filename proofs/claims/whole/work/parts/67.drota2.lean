theorem wt_pre {T : Tn} {i g d : Nat} (h1 : T 1 ≤ 6) (hg : g < T 1) : wt (pre T i (T 1)) d g = wt (up T (32 + g) (pd (T 0) i (T 1) g)) d g := by
  unfold wt hst
  rw [pre_in hg, up_same, pre_out (j := 44 + g) (by omega), pre_out (j := 38 + g) (by omega), pre_out (j := 4) (by omega), pre_out (j := 0) (by omega), up_ne (show 44 + g ≠ 32 + g by omega), up_ne (show 38 + g ≠ 32 + g by omega), up_ne (show 4 ≠ 32 + g by omega), up_ne (show 0 ≠ 32 + g by omega)]
theorem srv_sp {T : Tn} {w n i : Nat} (h1 : T 1 ≤ 6) (h0 : 0 < T 0) : srv T w (min n (mxU (fun g => T (44 + g)) (T 1) + T 0)) i = srv T w n i := by
  have e0 : pre T i (T 1) 0 = T 0 := pre_out (by omega)
  have e1 : pre T i (T 1) 1 = T 1 := pre_out (by omega)
  have := svs_min (V := pre T i (T 1)) (L := mxU (fun g => T (44 + g)) (T 1)) (n := n) (fun g hg => by
    rw [e1] at hg
    rw [pre_out (by omega)]
    exact mxU_le (fun g => T (44 + g)) (T 1) g hg) (by rw [e0]; exact h0)
  unfold srv
  rw [e0] at this
  rw [this]
def FX (h h' : Hp) : Prop := ∀ a, a < 85 ∨ (88 < a ∧ a < 100) ∨ 111 < a → h' a = h a
theorem FX.rf (h : Hp) : FX h h := fun _ _ => rfl
theorem FX.tr {h h1 h2 : Hp} (a : FX h h1) (b : FX h1 h2) : FX h h2 := fun q e => (b q e).trans (a q e)
theorem FX.fr {h h1 : Hp} (a : Fr h h1 100) : FX h h1 := fun q e => a q (by omega)
theorem FX.fn {h h1 : Hp} (a : FN h h1) : FX h h1 := fun q e => a q (by omega)
theorem FX.sc {h h1 : Hp} (a : FX h h1) : SC h h1 := fun q e => a q (by omega)
section DROTA2
variable {G : Gt} {d : Nat} {h : Hp} {T : Tn}
theorem sp_fewestChanges {w n : Nat} {K : Int32 → Hp → Prop} (hP : PG h 51 T) (hO : OKT T) (h0 : 0 < T 1) (hw : w < 32) (hn : n ≤ 14)
    (k1 : ∀ h' c i, bst T w n (T 1 + 1) 0 = some (c, i) → c ≤ 6 → TW h' 100 (pre T i (T 1)) → FX h h' → K (nI c) h') (k0 : ∀ h', bst T w n (T 1 + 1) 0 = none → FX h h' → K kNONE h') : Call G (d + 11) mX3_fewestChanges [.ref 85, .ref 51, .int (nI w), .int (nI n)] h (pI K) := by
  obtain ⟨o0, o1, o2, o3, o4, o5, o6, o7, o8⟩ := id hO
  have p0 := (o5 h0).1
  have lb : mxU (fun g => T (44 + g)) (T 1) ≤ 60 := mxU_bd _ (fun i hi => (o7 i hi).2.2.2.2.1)
  have hsv := fun i => srv_sp (T := T) (w := w) (n := n) (i := i) o1 p0
  generalize hL : mxU (fun g => T (44 + g)) (T 1) = L at *
  generalize hsp : min n (L + T 0) = sp at *
  have hsp1 : sp ≤ 100 := by omega
  refine Call.of (M := mX3_fewestChanges) (n := 1) (by decide +kernel) rfl ?_
  show WP _ _ _ _ 0 [some (.ref 85), some (.ref 51), some (.int (nI w)), some (.int (nI n)), none] [] _
  have loop : ∀ m c h1, c + m = T 1 + 1 → TW h1 100 T → RO h1 T w sp → FX h h1 → bst T w n (T 1 + 1) 0 = bst T w n m c → WP G (d + 11) mX3_fewestChanges (pI K) 40 [some (.ref 85), some (.ref 51), some (.int (nI w)), some (.int (nI n)), some (.int (nI c))] [] h1 := by
    intro m
    induction m with
    | zero =>
      intro c h1 hcm hW1 hR1 hF1 he
      have e3 := hW1.2.2.2.1
      refine wp_iload (pc := 40) (i := 4) dX3_fewestChanges_40 rfl ?_
      refine wp_aload_n (pc := 42) (i := 0) dX3_fewestChanges_42 rfl rfl ?_
      refine wp_gfr (pc := 43) fk_X3_12 dX3_fewestChanges_43 rfl rfl (by decide) ?_
      refine wp_gfv (pc := 46) fk_X3_55 dX3_fewestChanges_46 rfl rfl (by first | with_reducible assumption | with_reducible exact hs_same _ _ _ _ | rfl) ?_
      first | (with_reducible show WP _ _ _ _ _ _ (Value.int (nI _) :: Value.int (nI _) :: _) _; refine wp_icmp_gtN (pc := 49) (tgt := 72) dX3_fewestChanges_49 (by decide) (by omega) (by omega) (fun c49 => ?_) (fun c49 => ?_)) | refine wp_icmp_gt (pc := 49) (tgt := 72) dX3_fewestChanges_49 (by decide) (fun c49 => ?_) (fun c49 => ?_)
      refine wp_ldc (pc := 72) kn_X3_62 dX3_fewestChanges_72 ?_
      refine wp_iret (pc := 74) dX3_fewestChanges_74 rfl ?_
      rotate_left
      rotate_left
      · exact k0 h1 he hF1
      · exact absurd hcm (by omega)
    | succ m ih =>
      intro c h1 hcm hW1 hR1 hF1 he
      have e3 := hW1.2.2.2.1
      have ez : ∀ i, rin T (T 1) 0 i ↔ i < T 0 ^ T 1 := fun i => by unfold rin; rw [Nat.zero_mul]; omega
      have eo : ∀ i, okp T w sp 0 c i → (decide (chg T 0 i = c) && srv T w n i) = true := fun i z => by rw [← hsv i, z.2, decide_eq_true z.1]; rfl
      have en : ∀ i, ¬ okp T w sp 0 c i → (decide (chg T 0 i = c) && srv T w n i) = false := fun i z => by
        cases q : (decide (chg T 0 i = c) && srv T w n i) with
        | false => rfl
        | true =>
          rw [Bool.and_eq_true, ← hsv i] at q
          exact absurd ⟨of_decide_eq_true q.1, q.2⟩ z
      refine wp_iload (pc := 40) (i := 4) dX3_fewestChanges_40 rfl ?_
      refine wp_aload_n (pc := 42) (i := 0) dX3_fewestChanges_42 rfl rfl ?_
      refine wp_gfr (pc := 43) fk_X3_12 dX3_fewestChanges_43 rfl rfl (by decide) ?_
      refine wp_gfv (pc := 46) fk_X3_55 dX3_fewestChanges_46 rfl rfl (by first | with_reducible assumption | with_reducible exact hs_same _ _ _ _ | rfl) ?_
      first | (with_reducible show WP _ _ _ _ _ _ (Value.int (nI _) :: Value.int (nI _) :: _) _; refine wp_icmp_gtN (pc := 49) (tgt := 72) dX3_fewestChanges_49 (by decide) (by omega) (by omega) (fun c49 => ?_) (fun c49 => ?_)) | refine wp_icmp_gt (pc := 49) (tgt := 72) dX3_fewestChanges_49 (by decide) (fun c49 => ?_) (fun c49 => ?_)
      rotate_left
      refine wp_aload_n (pc := 52) (i := 0) dX3_fewestChanges_52 rfl rfl ?_
      refine wp_iconst (pc := 53) (v := nI 0) dX3_fewestChanges_53 rfl ?_
      refine wp_iload (pc := 54) (i := 4) dX3_fewestChanges_54 rfl ?_
      refine wp_iconst (pc := 56) (v := nI 0) dX3_fewestChanges_56 rfl ?_
      refine wp_cV3i (pc := 57) lk_X3_58 dX3_fewestChanges_57 rfl rfl rfl ?_
      rotate_left
      · exact absurd hcm (by omega)
      have P := sp_place (G := G) (d := d + (6 - T 1)) (w := w) (sp := sp) hO h0 hw hsp1 (T 1) 0 0 c 0 h1 (by omega) (by omega) (by omega) (by rw [pre_0]; exact hW1) hR1 (fun i hi b hb => by
        obtain ⟨dd, g, d1, d2, d3⟩ := svs_ex _ hb
        rw [pre_out (by omega)] at d2
        refine Or.inr ⟨g, by omega, d2, ?_⟩
        rw [wt_pre o1 d2] at d3
        exact vb_bit _ dd d1 d3) (fun v h2 => WP G (d + 11) mX3_fewestChanges (pI K) 60 [some (.ref 85), some (.ref 51), some (.int (nI w)), some (.int (nI n)), some (.int (nI c))] [.int v] h2) (fun h2 i hi z1 z2 hW2 hF2 => ?_) (fun h2 z hW2 hF2 => ?_)
      · rw [show d + (6 - T 1) + T 1 + 4 = d + 10 by omega] at P
        exact P
      · have e : bst T w n (m + 1) c = some (c, i) := by
          unfold bst
          rw [fnd_is (i := i) (eo i z1) _ _ (by omega) (by have := (ez i).mp hi; omega) (fun j _ hj => en j (z2 j ((ez j).mpr (by have := (ez i).mp hi; omega)) hj))]
        first | (with_reducible show WP _ _ _ _ _ _ (Value.int (bI _) :: _) _; refine wp_if_eqB (pc := 60) (tgt := 66) dX3_fewestChanges_60 (by decide) (fun c60 => ?_) (fun c60 => ?_)) | (with_reducible show WP _ _ _ _ _ _ (Value.int (nI _) :: _) _; refine wp_if_eqN (pc := 60) (tgt := 66) dX3_fewestChanges_60 (by decide) (by omega) (fun c60 => ?_) (fun c60 => ?_)) | refine wp_if_eq (pc := 60) (tgt := 66) dX3_fewestChanges_60 (by decide) (fun c60 => ?_) (fun c60 => ?_)
        rotate_left
        refine wp_iload (pc := 63) (i := 4) dX3_fewestChanges_63 rfl ?_
        refine wp_iret (pc := 65) dX3_fewestChanges_65 rfl ?_
        rotate_left
        · exact absurd c60 (by decide)
        exact k1 h2 c i (he.trans e) (by omega) hW2 (hF1.tr (FX.fr hF2))
      · have e : bst T w n (m + 1) c = bst T w n m (c + 1) := by
          show (match fnd _ 0 (T 0 ^ T 1) with | some i => some (c, i) | none => bst T w n m (c + 1)) = _
          rw [fnd_no _ _ (fun j _ hj => en j (z j ((ez j).mpr (by omega))))]
        first | (with_reducible show WP _ _ _ _ _ _ (Value.int (bI _) :: _) _; refine wp_if_eqB (pc := 60) (tgt := 66) dX3_fewestChanges_60 (by decide) (fun c60 => ?_) (fun c60 => ?_)) | (with_reducible show WP _ _ _ _ _ _ (Value.int (nI _) :: _) _; refine wp_if_eqN (pc := 60) (tgt := 66) dX3_fewestChanges_60 (by decide) (by omega) (fun c60 => ?_) (fun c60 => ?_)) | refine wp_if_eq (pc := 60) (tgt := 66) dX3_fewestChanges_60 (by decide) (fun c60 => ?_) (fun c60 => ?_)
        first | refine wp_iincN (pc := 66) (i := 4) (n := 1) dX3_fewestChanges_66 rfl rfl (by decide) rfl ?_ | refine wp_iinc (pc := 66) (i := 4) dX3_fewestChanges_66 rfl rfl rfl (by decide) rfl ?_
        dsimp only [List.set_cons_zero, List.set_cons_succ]
        refine wp_goto (pc := 69) (tgt := 40) dX3_fewestChanges_69 (by decide) ?_
        rotate_left
        refine wp_iload (pc := 63) (i := 4) dX3_fewestChanges_63 rfl ?_
        refine wp_iret (pc := 65) dX3_fewestChanges_65 rfl ?_
        rotate_left
        · exact ih (c + 1) h2 (by omega) (by rw [pre_0] at hW2; exact hW2) (hR1.cg (fun a a1 a2 => hF2 a (by omega))) (hF1.tr (FX.fr hF2)) (he.trans e)
        · exact absurd rfl c60
  refine wp_aload_n (pc := 0) (i := 0) dX3_fewestChanges_0 rfl rfl ?_
  refine wp_gfr (pc := 1) fk_X3_12 dX3_fewestChanges_1 rfl rfl (by decide) ?_
  refine wp_aload_n (pc := 4) (i := 1) dX3_fewestChanges_4 rfl rfl ?_
  refine wp_cV1v (pc := 5) lk_X3_28 dX3_fewestChanges_5 rfl rfl rfl (sp_load isT_100 rfl (by decide) (fun h9 s9 => ?_))
  rotate_left
  have hW := s9.tw hP hO
  have f9 : FX h h9 := fun a ha => s9.1 a (by omega)
  have e2 : hs h9 85 4 (nI w) 100 2 = nI (T 0) := by rw [hs_ne (by decide)]; exact hW.2.2.1
  have w1 : TW (hs h9 85 4 (nI w)) 100 T := hW.cg2 (fun a _ _ => hs_ne (by omega))
  refine wp_aload_n (pc := 8) (i := 0) dX3_fewestChanges_8 rfl rfl ?_
  refine wp_iload_n (pc := 9) (i := 2) dX3_fewestChanges_9 rfl rfl ?_
  refine wp_pf (pc := 10) fp_X3_32 dX3_fewestChanges_10 rfl rfl rfl rfl ?_
  refine wp_aload_n (pc := 13) (i := 0) dX3_fewestChanges_13 rfl rfl ?_
  refine wp_iload_n (pc := 14) (i := 3) dX3_fewestChanges_14 rfl rfl ?_
  refine wp_aload_n (pc := 15) (i := 0) dX3_fewestChanges_15 rfl rfl ?_
  refine wp_cV0i (pc := 16) lk_X3_36 dX3_fewestChanges_16 rfl rfl rfl (sp_longestIll w1 hO ?_)
  refine wp_aload_n (pc := 19) (i := 0) dX3_fewestChanges_19 rfl rfl ?_
  refine wp_gfr (pc := 20) fk_X3_12 dX3_fewestChanges_20 rfl rfl (by decide) ?_
  refine wp_gfv (pc := 23) fk_X3_40 dX3_fewestChanges_23 rfl rfl (by first | with_reducible assumption | with_reducible exact hs_same _ _ _ _ | rfl) ?_
  first | (with_reducible show WP _ _ _ _ _ _ (Value.int (nI _) :: Value.int (nI _) :: _) _; refine wp_iaddN (pc := 26) dX3_fewestChanges_26 ?_) | refine wp_iadd (pc := 26) dX3_fewestChanges_26 ?_
  rotate_left
  rw [hL]
  refine wp_minN (pc := 27) lk_X3_43 dX3_fewestChanges_27 (by omega) (by omega) rfl ?_
  rw [hsp]
  have w2 : TW (hs (hs h9 85 4 (nI w)) 85 5 (nI sp)) 100 T := w1.cg2 (fun a _ _ => hs_ne (by omega))
  refine wp_pf (pc := 30) fp_X3_49 dX3_fewestChanges_30 rfl rfl rfl rfl ?_
  refine wp_aload_n (pc := 33) (i := 0) dX3_fewestChanges_33 rfl rfl ?_
  refine wp_cV0v (pc := 34) lk_X3_52 dX3_fewestChanges_34 rfl rfl rfl (sp_noteReach w2 hO h0 (hs_same _ _ _ _) hsp1 (fun h2 hW2 hF2 a1 a2 a3 => ?_))
  refine wp_iconst (pc := 37) (v := nI 0) dX3_fewestChanges_37 rfl ?_
  refine wp_istore (pc := 38) (i := 4) dX3_fewestChanges_38 rfl (by decide) rfl ?_
  dsimp only [List.set_cons_zero, List.set_cons_succ]
  rotate_left
  refine loop (T 1 + 1) 0 h2 (by omega) hW2 ⟨?_, ?_, a1, a2, a3⟩ (f9.tr (FX.tr (fun a ha => ?_) (FX.fn hF2))) rfl
  · rw [hF2 85 (by omega), hs_ix (by decide)]; exact hs_same _ _ _ _
  · rw [hF2 85 (by omega)]; exact hs_same _ _ _ _
  · rw [hs_ne (by omega), hs_ne (by omega)]
theorem sd_rota {c n x : Int32} {K : Int32 → Hp → Prop} (hW : TW h 27 T) (hO : OKT T) (k : ∀ h', SC h h' → K (fRota T c n x) h') : Call G (d + 12) mX6_rota [.ref 0, .int c, .int n, .int x] h (pI K) := by
  obtain ⟨o0, o1, o2, o3, o4, o5, o6, o7, o8⟩ := id hO
  have e3 := hW.2.2.2.1
  have p5 := pow5 o0
  refine Call.of (M := mX6_rota) (n := 1) (by decide +kernel) rfl ?_
  show WP _ _ _ _ 0 [some (.ref 0), some (.int c), some (.int n), some (.int x), none] [] _
  refine wp_aload_n (pc := 0) (i := 0) dX6_rota_0 rfl rfl ?_
  refine wp_cV0i (pc := 1) lk_X6_154 dX6_rota_1 rfl rfl rfl (sp_noTown hW hO ?_)
  first | (with_reducible show WP _ _ _ _ _ _ (Value.int (bI _) :: _) _; refine wp_if_eqB (pc := 4) (tgt := 10) dX6_rota_4 (by decide) (fun c4 => ?_) (fun c4 => ?_)) | (with_reducible show WP _ _ _ _ _ _ (Value.int (nI _) :: _) _; refine wp_if_eqN (pc := 4) (tgt := 10) dX6_rota_4 (by decide) (by omega) (fun c4 => ?_) (fun c4 => ?_)) | refine wp_if_eq (pc := 4) (tgt := 10) dX6_rota_4 (by decide) (fun c4 => ?_) (fun c4 => ?_)
  refine wp_iload_n (pc := 10) (i := 1) dX6_rota_10 rfl rfl ?_
  refine wp_iconst (pc := 11) (v := nI 0) dX6_rota_11 rfl ?_
  refine wp_aload_n (pc := 12) (i := 0) dX6_rota_12 rfl rfl ?_
  refine wp_gfr (pc := 13) fk_X6_26 dX6_rota_13 rfl rfl (by decide) ?_
  refine wp_cV0i (pc := 16) lk_X6_223 dX6_rota_16 rfl rfl rfl (sp_allChildren isT_27 hW hO ?_)
  refine wp_cS3i (pc := 19) lk_X6_74 dX6_rota_19 rfl (sp_btw (by decide) (by omega) ?_)
  first | (with_reducible show WP _ _ _ _ _ _ (Value.int (bI _) :: _) _; refine wp_if_eqB (pc := 22) (tgt := 52) dX6_rota_22 (by decide) (fun c22 => ?_) (fun c22 => ?_)) | (with_reducible show WP _ _ _ _ _ _ (Value.int (nI _) :: _) _; refine wp_if_eqN (pc := 22) (tgt := 52) dX6_rota_22 (by decide) (by omega) (fun c22 => ?_) (fun c22 => ?_)) | refine wp_if_eq (pc := 22) (tgt := 52) dX6_rota_22 (by decide) (fun c22 => ?_) (fun c22 => ?_)
  refine wp_ldc (pc := 52) kn_X6_78 dX6_rota_52 ?_
  refine wp_iret (pc := 54) dX6_rota_54 rfl ?_
  rotate_left
  refine wp_iload_n (pc := 25) (i := 2) dX6_rota_25 rfl rfl ?_
  refine wp_iconst (pc := 26) (v := nI 1) dX6_rota_26 rfl ?_
  refine wp_bipush (pc := 27) (v := nI 14) dX6_rota_27 rfl ?_
  refine wp_cS3i (pc := 29) lk_X6_74 dX6_rota_29 rfl (sp_btw (by decide) (by decide) ?_)
  first | (with_reducible show WP _ _ _ _ _ _ (Value.int (bI _) :: _) _; refine wp_if_eqB (pc := 32) (tgt := 52) dX6_rota_32 (by decide) (fun c32 => ?_) (fun c32 => ?_)) | (with_reducible show WP _ _ _ _ _ _ (Value.int (nI _) :: _) _; refine wp_if_eqN (pc := 32) (tgt := 52) dX6_rota_32 (by decide) (by omega) (fun c32 => ?_) (fun c32 => ?_)) | refine wp_if_eq (pc := 32) (tgt := 52) dX6_rota_32 (by decide) (fun c32 => ?_) (fun c32 => ?_)
  refine wp_ldc (pc := 52) kn_X6_78 dX6_rota_52 ?_
  refine wp_iret (pc := 54) dX6_rota_54 rfl ?_
  rotate_left
  refine wp_iload_n (pc := 35) (i := 3) dX6_rota_35 rfl rfl ?_
  refine wp_iconst (pc := 36) (v := kM1) dX6_rota_36 rfl ?_
  refine wp_aload_n (pc := 37) (i := 0) dX6_rota_37 rfl rfl ?_
  refine wp_gfr (pc := 38) fk_X6_26 dX6_rota_38 rfl rfl (by decide) ?_
  refine wp_gfv (pc := 41) fk_X6_143 dX6_rota_41 rfl rfl (by first | with_reducible assumption | with_reducible exact hs_same _ _ _ _ | rfl) ?_
  refine wp_iconst (pc := 44) (v := nI 1) dX6_rota_44 rfl ?_
  first | (with_reducible show WP _ _ _ _ _ _ (Value.int (nI _) :: Value.int (nI _) :: _) _; refine wp_isubN (pc := 45) dX6_rota_45 (by omega) ?_) | refine wp_isub (pc := 45) dX6_rota_45 ?_
  rotate_left
  refine wp_ldc (pc := 7) kn_X6_153 dX6_rota_7 ?_
  refine wp_iret (pc := 9) dX6_rota_9 rfl ?_
  rotate_left
  · rw [fRota, if_neg (of_decide_eq_false c4), c22, if_f1] at k; exact k h (SC.rf h)
  · rw [fRota, if_neg (of_decide_eq_false c4), c22, c32, if_f2] at k; exact k h (SC.rf h)
  rotate_left
  · rw [fRota, if_pos (of_decide_eq_true c4)] at k; exact k h (SC.rf h)
  have z := of_decide_eq_false c4
  have kin : decide (kM1.toInt ≤ x.toInt ∧ x.toInt ≤ (nI (T 1 - 1)).toInt) = (inN x (T 1) || decide (x = kM1)) := by
    rw [nI_toInt (show T 1 - 1 < 2 ^ 31 by omega)]
    have km : kM1.toInt = -1 := by decide
    rw [km]
    by_cases y : x = kM1
    · subst y
      rw [decide_eq_true (p := kM1 = kM1) rfl, Bool.or_true]
      exact decide_eq_true (by rw [km]; omega)
    · rw [decide_eq_false y, Bool.or_false, inN]
      have y2 : x.toInt ≠ -1 := fun q => y (Int32.toInt_inj.mp (q.trans km.symm))
      exact decide_eq_decide.mpr (by omega)
  refine wp_cS3i (pc := 46) lk_X6_74 dX6_rota_46 rfl (sp_within ?_)
  rw [show nI (T 1) - nI 1 = nI (T 1 - 1) from pk_sub (by omega), kin]
  first | (with_reducible show WP _ _ _ _ _ _ (Value.int (bI _) :: _) _; refine wp_if_neB (pc := 49) (tgt := 55) dX6_rota_49 (by decide) (fun c49 => ?_) (fun c49 => ?_)) | (with_reducible show WP _ _ _ _ _ _ (Value.int (nI _) :: _) _; refine wp_if_neN (pc := 49) (tgt := 55) dX6_rota_49 (by decide) (by omega) (fun c49 => ?_) (fun c49 => ?_)) | refine wp_if_ne (pc := 49) (tgt := 55) dX6_rota_49 (by decide) (fun c49 => ?_) (fun c49 => ?_)
  rotate_left
  refine wp_ldc (pc := 52) kn_X6_78 dX6_rota_52 ?_
  refine wp_iret (pc := 54) dX6_rota_54 rfl ?_
  rotate_left
  rotate_left
  · rw [fRota, if_neg z, c22, c32, c49, if_f3] at k; exact k h (SC.rf h)
  rw [fRota, if_neg z, c22, c32, c49, if_tt] at k
  obtain ⟨c, -, hc, rfl⟩ := btw_t (by omega) c22
  obtain ⟨n, -, hn, rfl⟩ := btw_t (by decide) c32
  rw [nI_clamp (show c < 2 ^ 31 by omega), nI_clamp (show n < 2 ^ 31 by omega)] at k
  refine wp_aload_n (pc := 55) (i := 0) dX6_rota_55 rfl rfl ?_
  refine wp_gfr (pc := 56) fk_X6_26 dX6_rota_56 rfl rfl (by decide) ?_
  refine wp_aload_n (pc := 59) (i := 0) dX6_rota_59 rfl rfl ?_
  refine wp_gfr (pc := 60) fk_X6_33 dX6_rota_60 rfl rfl (by decide) ?_
  refine wp_cV1v (pc := 63) lk_X6_133 dX6_rota_63 rfl rfl rfl (sp_save isT_27 rfl (by decide) (fun h1 s1 => ?_))
  refine wp_aload_n (pc := 66) (i := 0) dX6_rota_66 rfl rfl ?_
  refine wp_gfr (pc := 67) fk_X6_66 dX6_rota_67 rfl rfl (by decide) ?_
  refine wp_aload_n (pc := 70) (i := 0) dX6_rota_70 rfl rfl ?_
  refine wp_gfr (pc := 71) fk_X6_33 dX6_rota_71 rfl rfl (by decide) ?_
  refine wp_iload_n (pc := 74) (i := 1) dX6_rota_74 rfl rfl ?_
  refine wp_iload_n (pc := 75) (i := 2) dX6_rota_75 rfl rfl ?_
  refine wp_cV3i (pc := 76) lk_X6_229 dX6_rota_76 rfl rfl rfl (sp_fewestChanges (s1.pg hW hO) hO (by omega) (by omega) hn (fun h2 m i e hm hW2 hF2 => ?_) (fun h2 e hF2 => ?_))
  rotate_left
  · have kk := k h2 ((show SC h h1 from fun a ha => s1.1 a (by omega)).tr hF2.sc)
    rw [e, rtV_none] at kk
    refine wp_istore (pc := 79) (i := 4) dX6_rota_79 rfl (by decide) rfl ?_
    dsimp only [List.set_cons_zero, List.set_cons_succ]
    refine wp_iload_n (pc := 81) (i := 3) dX6_rota_81 rfl rfl ?_
    first | (with_reducible show WP _ _ _ _ _ _ (Value.int (nI _) :: _) _; refine wp_if_ltN (pc := 82) (tgt := 92) dX6_rota_82 (by decide) (by omega) (fun c82 => ?_) (fun c82 => ?_)) | refine wp_if_lt (pc := 82) (tgt := 92) dX6_rota_82 (by decide) (fun c82 => ?_) (fun c82 => ?_)
    refine wp_iload (pc := 92) (i := 4) dX6_rota_92 rfl ?_
    refine wp_goto (pc := 94) (tgt := 109) dX6_rota_94 (by decide) ?_
    refine wp_iret (pc := 109) dX6_rota_109 rfl ?_
    rotate_left
    refine wp_iload (pc := 85) (i := 4) dX6_rota_85 rfl ?_
    refine wp_ldc (pc := 87) kn_X6_222 dX6_rota_87 ?_
    first | (with_reducible show WP _ _ _ _ _ _ (Value.int (nI _) :: Value.int (nI _) :: _) _; refine wp_icmp_neN (pc := 89) (tgt := 97) dX6_rota_89 (by decide) (by omega) (by omega) (fun c89 => ?_) (fun c89 => ?_)) | refine wp_icmp_ne (pc := 89) (tgt := 97) dX6_rota_89 (by decide) (fun c89 => ?_) (fun c89 => ?_)
    rotate_left
    refine wp_iload (pc := 92) (i := 4) dX6_rota_92 rfl ?_
    refine wp_goto (pc := 94) (tgt := 109) dX6_rota_94 (by decide) ?_
    refine wp_iret (pc := 109) dX6_rota_109 rfl ?_
    rotate_left
    · exact kk
    · exact absurd rfl c89
    · exact kk
  · have kk := k h2 ((show SC h h1 from fun a ha => s1.1 a (by omega)).tr hF2.sc)
    rw [e, rtV_some] at kk
    by_cases y : x = kM1
    · rw [if_pos y] at kk
      subst y
      refine wp_istore (pc := 79) (i := 4) dX6_rota_79 rfl (by decide) rfl ?_
      dsimp only [List.set_cons_zero, List.set_cons_succ]
      refine wp_iload_n (pc := 81) (i := 3) dX6_rota_81 rfl rfl ?_
      first | (with_reducible show WP _ _ _ _ _ _ (Value.int (nI _) :: _) _; refine wp_if_ltN (pc := 82) (tgt := 92) dX6_rota_82 (by decide) (by omega) (fun c82 => ?_) (fun c82 => ?_)) | refine wp_if_lt (pc := 82) (tgt := 92) dX6_rota_82 (by decide) (fun c82 => ?_) (fun c82 => ?_)
      refine wp_iload (pc := 92) (i := 4) dX6_rota_92 rfl ?_
      refine wp_goto (pc := 94) (tgt := 109) dX6_rota_94 (by decide) ?_
      refine wp_iret (pc := 109) dX6_rota_109 rfl ?_
      rotate_left
      rotate_left
      · exact kk
      · exact absurd (by decide) c82
    · rw [decide_eq_false y, Bool.or_false] at c49
      obtain ⟨x, hx, rfl⟩ := inN_t (by omega) c49
      have pf : h2 106 x = nI (pd (T 0) i (T 1) x) := by
        have := hW2.2.2.2.2.2.2.2.2.2.2.1 x (by rw [pre_out (by omega)]; exact hx)
        rw [pre_in hx] at this
        exact this
      rw [if_neg y, nI_clamp (by omega)] at kk
      refine wp_istore (pc := 79) (i := 4) dX6_rota_79 rfl (by decide) rfl ?_
      dsimp only [List.set_cons_zero, List.set_cons_succ]
      refine wp_iload_n (pc := 81) (i := 3) dX6_rota_81 rfl rfl ?_
      first | (with_reducible show WP _ _ _ _ _ _ (Value.int (nI _) :: _) _; refine wp_if_ltN (pc := 82) (tgt := 92) dX6_rota_82 (by decide) (by omega) (fun c82 => ?_) (fun c82 => ?_)) | refine wp_if_lt (pc := 82) (tgt := 92) dX6_rota_82 (by decide) (fun c82 => ?_) (fun c82 => ?_)
      refine wp_iload (pc := 92) (i := 4) dX6_rota_92 rfl ?_
      refine wp_goto (pc := 94) (tgt := 109) dX6_rota_94 (by decide) ?_
      refine wp_iret (pc := 109) dX6_rota_109 rfl ?_
      rotate_left
      refine wp_iload (pc := 85) (i := 4) dX6_rota_85 rfl ?_
      refine wp_ldc (pc := 87) kn_X6_222 dX6_rota_87 ?_
      first | (with_reducible show WP _ _ _ _ _ _ (Value.int (nI _) :: Value.int (nI _) :: _) _; refine wp_icmp_neN (pc := 89) (tgt := 97) dX6_rota_89 (by decide) (by omega) (by omega) (fun c89 => ?_) (fun c89 => ?_)) | refine wp_icmp_ne (pc := 89) (tgt := 97) dX6_rota_89 (by decide) (fun c89 => ?_) (fun c89 => ?_)
      refine wp_aload_n (pc := 97) (i := 0) dX6_rota_97 rfl rfl ?_
      refine wp_gfr (pc := 98) fk_X6_66 dX6_rota_98 rfl rfl (by decide) ?_
      refine wp_gfr (pc := 101) fk_X6_233 dX6_rota_101 rfl rfl (by decide) ?_
      refine wp_gfr (pc := 104) fk_X6_177 dX6_rota_104 rfl rfl (by decide) ?_
      refine wp_iload_n (pc := 107) (i := 3) dX6_rota_107 rfl rfl ?_
      first | (with_reducible show WP _ _ _ _ _ _ (Value.int (nI _) :: _) _; refine wp_ialdN (pc := 108) dX6_rota_108 rfl (by omega) (by first | with_reducible assumption | with_reducible exact hs_same _ _ _ _ | rfl) ?_) | refine wp_iald (pc := 108) dX6_rota_108 rfl (by assumption) rfl ?_
      refine wp_iret (pc := 109) dX6_rota_109 rfl ?_
      rotate_left
      refine wp_iload (pc := 92) (i := 4) dX6_rota_92 rfl ?_
      refine wp_goto (pc := 94) (tgt := 109) dX6_rota_94 (by decide) ?_
      refine wp_iret (pc := 109) dX6_rota_109 rfl ?_
      rotate_left
      · exact absurd c82 (by omega)
      · exact kk
      · exact absurd c89 (nI_none (by omega))
end DROTA2
