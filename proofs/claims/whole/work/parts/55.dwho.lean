section DWHO
variable {G : Gt} {d : Nat} {h : Hp} {σ : Sg} {T : Tn}
/-- the trial's cells and the finding alone have changed -/
def FQ (h h' : Hp) : Prop := ∀ a, a < 39 ∨ 51 < a → h' a = h a
theorem DI.tri {h' : Hp} (e : FQ h h') (H : DI h σ) : DI h' σ := H.sc (fun a ha => e a (by omega))
theorem dr_itm {r i n : Nat} {y : Rw} (H : DI h σ) (hr : r < 8) (hy : gR σ r = some y) (hi : i + n ≤ y.2.1) : ∀ j, j < n → h (3 + r) (i + j) = itm σ r i j := fun j hj => by
  have := H.2.2.2.1 r hr
  rw [hy] at this
  rw [itm, hy]
  exact this.2.2 (i + j) (by omega)
theorem sd_who {x g r i n : Int32} {K : Int32 → Hp → Prop} (H : DI h σ) (hO : OKS σ) (k : ∀ h', DI h' (fWho σ x g r i n).2 → RS h h' → K (fWho σ x g r i n).1 h') : Call G (d + 5) mX6_who [.ref 0, .int x, .int g, .int r, .int i, .int n] h (pI K) := by
  have hOT := hO.1.1
  have hd := hO.1.2
  obtain ⟨o0, o1, o2, o3, o4, o5, o6, o7, o8⟩ := id hOT
  refine Call.of (M := mX6_who) (n := 3) (by decide +kernel) rfl ?_
  show WP _ _ _ _ 0 [some (.ref 0), some (.int x), some (.int g), some (.int r), some (.int i), some (.int n), none, none, none] [] _
  refine wp_aload_n (pc := 0) (i := 0) dX6_who_0 rfl rfl ?_
  refine wp_iload_n (pc := 1) (i := 1) dX6_who_1 rfl rfl ?_
  refine wp_iload_n (pc := 2) (i := 2) dX6_who_2 rfl rfl ?_
  refine wp_iload_n (pc := 3) (i := 3) dX6_who_3 rfl rfl ?_
  refine wp_iload (pc := 4) (i := 4) dX6_who_4 rfl ?_
  refine wp_iload (pc := 6) (i := 5) dX6_who_6 rfl ?_
  rotate_left
  refine wp_cV5i (pc := 8) lk_X6_250 dX6_who_8 rfl rfl rfl (sp_refusal H hO (fun v s e1 e2 h1 H1 hr1 => ?_) (fun e1 => ?_))
  · rw [fWho, toldA, e1] at k
    refine wp_istore (pc := 11) (i := 6) dX6_who_11 rfl (by decide) rfl ?_
    dsimp only [List.set_cons_zero, List.set_cons_succ]
    refine wp_iload (pc := 13) (i := 6) dX6_who_13 rfl ?_
    rotate_left
    refine wp_if_eq (pc := 15) (tgt := 21) dX6_who_15 (by decide) (fun c15 => absurd c15 e2) (fun c15 => ?_)
    refine wp_iload (pc := 18) (i := 6) dX6_who_18 rfl ?_
    refine wp_iret (pc := 20) dX6_who_20 rfl ?_
    rotate_left
    exact k h1 H1 hr1
  rw [fWho, toldA, e1] at k
  obtain ⟨x', g', r', i', n', y, rfl, rfl, rfl, rfl, rfl, hx, hg, hr, hn1, hn, hy, hi⟩ := told_none o1 o0 e1
  have hy4 := (hO.2.2.2.1 r' y hy).2
  rw [nI_clamp (show x' < 2 ^ 31 by omega), nI_clamp (show g' < 2 ^ 31 by omega), nI_clamp (show r' < 2 ^ 31 by omega), nI_clamp (show i' < 2 ^ 31 by omega), nI_clamp (show n' < 2 ^ 31 by omega)] at k
  have H0 : DI (hs h 0 12 (nI 0)) (upS σ 0) := H.st
  have loop : ∀ m j h1, j + m = 5 → FQ (hs h 0 12 (nI 0)) h1 → WP G (d + 5) mX6_who (pI K) 27 [some (.ref 0), some (.int (nI x')), some (.int (nI g')), some (.int (nI r')), some (.int (nI i')), some (.int (nI n')), some (.int (nI 0)), some (.int (nI (orU (fun v => fso (up (gT σ) (20 + g') v) x' (itm σ r' i') n') 1 j))), some (.int (nI (1 + j)))] [] h1 := by
    intro m
    induction m with
    | zero =>
      intro j h1 hjm hq1
      have hT1 : TW h1 27 (gT σ) := (H0.tri hq1).1
      have e3 : h1 27 2 = nI (gT σ 0) := hT1.2.2.1
      refine wp_iload (pc := 27) (i := 8) dX6_who_27 rfl ?_
      refine wp_iconst (pc := 29) (v := nI 5) dX6_who_29 rfl ?_
      first | (with_reducible show WP _ _ _ _ _ _ (Value.int (nI _) :: Value.int (nI _) :: _) _; refine wp_icmp_gtN (pc := 30) (tgt := 80) dX6_who_30 (by decide) (by omega) (by omega) (fun c30 => ?_) (fun c30 => ?_)) | refine wp_icmp_gt (pc := 30) (tgt := 80) dX6_who_30 (by decide) (fun c30 => ?_) (fun c30 => ?_)
      refine wp_iload (pc := 80) (i := 7) dX6_who_80 rfl ?_
      refine wp_iret (pc := 82) dX6_who_82 rfl ?_
      rotate_left
      rotate_left
      · rw [show j = 5 by omega]; exact k h1 (H0.tri hq1) (fun a ha => by rw [hq1 a (by omega), hs_ne (by omega)])
      · exact absurd hjm (by omega)
    | succ m ih =>
      intro j h1 hjm hq1
      have H1 := H0.tri hq1
      have hT1 : TW h1 27 (gT σ) := H1.1
      have e3 : h1 27 2 = nI (gT σ 0) := hT1.2.2.1
      have w := fun h2 q => ih (j + 1) h2 (by omega) q
      rw [show orU (fun v => fso (up (gT σ) (20 + g') v) x' (itm σ r' i') n') 1 (j + 1) = orU (fun v => fso (up (gT σ) (20 + g') v) x' (itm σ r' i') n') 1 j ||| (if fso (up (gT σ) (20 + g') (1 + j)) x' (itm σ r' i') n' then 1 * 2 ^ (1 + j) else 0) from rfl, ← Nat.add_assoc] at w
      have hlt := orU_lt (fun v => fso (up (gT σ) (20 + g') v) x' (itm σ r' i') n') 1 j
      have hlt2 : 2 ^ (1 + j) ≤ 2 ^ 6 := Nat.pow_le_pow_right (by decide) (by omega)
      have q1 := okt_sor (v := 1 + j) hOT hg (by omega)
      refine wp_iload (pc := 27) (i := 8) dX6_who_27 rfl ?_
      refine wp_iconst (pc := 29) (v := nI 5) dX6_who_29 rfl ?_
      first | (with_reducible show WP _ _ _ _ _ _ (Value.int (nI _) :: Value.int (nI _) :: _) _; refine wp_icmp_gtN (pc := 30) (tgt := 80) dX6_who_30 (by decide) (by omega) (by omega) (fun c30 => ?_) (fun c30 => ?_)) | refine wp_icmp_gt (pc := 30) (tgt := 80) dX6_who_30 (by decide) (fun c30 => ?_) (fun c30 => ?_)
      rotate_left
      refine wp_aload_n (pc := 33) (i := 0) dX6_who_33 rfl rfl ?_
      refine wp_cV0v (pc := 34) lk_X6_212 dX6_who_34 rfl rfl rfl (sp_openTrial hT1 hOT (fun h2 hW2 hf2 => ?_))
      rotate_left
      · exact absurd hjm (by omega)
      have hW3 := hW2.sor (v := 1 + j) hOT hg
      have f3 : FQ (hs h 0 12 (nI 0)) (hs h2 43 g' (nI (1 + j))) := fun a ha => by rw [hs_ne (by omega), hf2 a (by omega)]; exact hq1 a ha
      have it : ∀ q, q < n' → hs h2 43 g' (nI (1 + j)) (3 + r') (i' + q) = itm σ r' i' q := dr_itm (σ := upS σ 0) (H0.tri f3) hr hy hi
      refine wp_aload_n (pc := 37) (i := 0) dX6_who_37 rfl rfl ?_
      refine wp_gfr (pc := 38) fk_X6_30 dX6_who_38 rfl rfl (by decide) ?_
      refine wp_gfr (pc := 41) fk_X6_253 dX6_who_41 rfl rfl (by decide) ?_
      refine wp_iload_n (pc := 44) (i := 2) dX6_who_44 rfl rfl ?_
      refine wp_iload (pc := 45) (i := 8) dX6_who_45 rfl ?_
      first | (with_reducible show WP _ _ _ _ _ _ (_ :: Value.int (nI _) :: _) _; refine wp_iastN (pc := 47) dX6_who_47 rfl (by omega) ?_) | refine wp_iast (pc := 47) dX6_who_47 rfl (by assumption) rfl ?_
      refine wp_iload (pc := 48) (i := 7) dX6_who_48 rfl ?_
      refine wp_aload_n (pc := 50) (i := 0) dX6_who_50 rfl rfl ?_
      refine wp_iload_n (pc := 51) (i := 1) dX6_who_51 rfl rfl ?_
      refine wp_iload_n (pc := 52) (i := 3) dX6_who_52 rfl rfl ?_
      refine wp_iload (pc := 53) (i := 4) dX6_who_53 rfl ?_
      refine wp_iload (pc := 55) (i := 5) dX6_who_55 rfl ?_
      refine wp_cV4i (pc := 57) lk_X6_256 dX6_who_57 rfl rfl rfl (sp_isFedAsTold hW3 q1 (by rw [up_ne (by omega)]; omega) (by rw [up_ne (by omega)]; exact hx) hr hn (by omega) (by rw [up_ne (by omega)]; exact hd) it (fun h4 hf4 => ?_))
      rotate_left
      have f4 : FQ (hs h 0 12 (nI 0)) h4 := fun a ha => by rw [hf4 a ha]; exact f3 a ha
      have w := w h4 f4
      first | (with_reducible show WP _ _ _ _ _ _ (Value.int (bI _) :: _) _; refine wp_if_eqB (pc := 60) (tgt := 70) dX6_who_60 (by decide) (fun c60 => ?_) (fun c60 => ?_)) | (with_reducible show WP _ _ _ _ _ _ (Value.int (nI _) :: _) _; refine wp_if_eqN (pc := 60) (tgt := 70) dX6_who_60 (by decide) (by omega) (fun c60 => ?_) (fun c60 => ?_)) | refine wp_if_eq (pc := 60) (tgt := 70) dX6_who_60 (by decide) (fun c60 => ?_) (fun c60 => ?_)
      refine wp_iconst (pc := 70) (v := nI 0) dX6_who_70 rfl ?_
      first | (with_reducible show WP _ _ _ _ _ _ (Value.int (nI _) :: Value.int (nI _) :: _) _; refine wp_iorN (pc := 71) dX6_who_71 ?_) | refine wp_ior (pc := 71) dX6_who_71 ?_
      refine wp_istore (pc := 72) (i := 7) dX6_who_72 rfl (by decide) rfl ?_
      dsimp only [List.set_cons_zero, List.set_cons_succ]
      first | refine wp_iincN (pc := 74) (i := 8) (n := 1) dX6_who_74 rfl rfl (by decide) rfl ?_ | refine wp_iinc (pc := 74) (i := 8) dX6_who_74 rfl rfl rfl (by decide) rfl ?_
      dsimp only [List.set_cons_zero, List.set_cons_succ]
      refine wp_goto (pc := 77) (tgt := 27) dX6_who_77 (by decide) ?_
      rotate_left
      refine wp_iconst (pc := 63) (v := nI 1) dX6_who_63 rfl ?_
      refine wp_iload (pc := 64) (i := 8) dX6_who_64 rfl ?_
      first | (with_reducible show WP _ _ _ _ _ _ (Value.int (nI _) :: Value.int (nI _) :: _) _; refine wp_ishlN (pc := 66) dX6_who_66 (by omega) ?_) | refine wp_ishl (pc := 66) dX6_who_66 ?_
      refine wp_goto (pc := 67) (tgt := 71) dX6_who_67 (by decide) ?_
      first | (with_reducible show WP _ _ _ _ _ _ (Value.int (nI _) :: Value.int (nI _) :: _) _; refine wp_iorN (pc := 71) dX6_who_71 ?_) | refine wp_ior (pc := 71) dX6_who_71 ?_
      refine wp_istore (pc := 72) (i := 7) dX6_who_72 rfl (by decide) rfl ?_
      dsimp only [List.set_cons_zero, List.set_cons_succ]
      first | refine wp_iincN (pc := 74) (i := 8) (n := 1) dX6_who_74 rfl rfl (by decide) rfl ?_ | refine wp_iinc (pc := 74) (i := 8) dX6_who_74 rfl rfl rfl (by decide) rfl ?_
      dsimp only [List.set_cons_zero, List.set_cons_succ]
      refine wp_goto (pc := 77) (tgt := 27) dX6_who_77 (by decide) ?_
      rotate_left
      · rw [c60] at w; exact w
      · rw [c60] at w; exact w
  refine wp_istore (pc := 11) (i := 6) dX6_who_11 rfl (by decide) rfl ?_
  dsimp only [List.set_cons_zero, List.set_cons_succ]
  refine wp_iload (pc := 13) (i := 6) dX6_who_13 rfl ?_
  first | (with_reducible show WP _ _ _ _ _ _ (Value.int (bI _) :: _) _; refine wp_if_eqB (pc := 15) (tgt := 21) dX6_who_15 (by decide) (fun c15 => ?_) (fun c15 => ?_)) | (with_reducible show WP _ _ _ _ _ _ (Value.int (nI _) :: _) _; refine wp_if_eqN (pc := 15) (tgt := 21) dX6_who_15 (by decide) (by omega) (fun c15 => ?_) (fun c15 => ?_)) | refine wp_if_eq (pc := 15) (tgt := 21) dX6_who_15 (by decide) (fun c15 => ?_) (fun c15 => ?_)
  refine wp_iconst (pc := 21) (v := nI 0) dX6_who_21 rfl ?_
  refine wp_istore (pc := 22) (i := 7) dX6_who_22 rfl (by decide) rfl ?_
  dsimp only [List.set_cons_zero, List.set_cons_succ]
  refine wp_iconst (pc := 24) (v := nI 1) dX6_who_24 rfl ?_
  refine wp_istore (pc := 25) (i := 8) dX6_who_25 rfl (by decide) rfl ?_
  dsimp only [List.set_cons_zero, List.set_cons_succ]
  rotate_left
  rotate_left
  · exact loop (5) 0 _ (by omega) (fun _ _ => rfl)
  · exact absurd rfl c15
theorem sd_firsts {x g r i n : Int32} {K : Int32 → Hp → Prop} (H : DI h σ) (hO : OKS σ) (k : ∀ h', DI h' (fFirsts σ x g r i n).2 → RS h h' → K (fFirsts σ x g r i n).1 h') : Call G (d + 5) mX6_firsts [.ref 0, .int x, .int g, .int r, .int i, .int n] h (pI K) := by
  have hOT := hO.1.1
  have hd := hO.1.2
  obtain ⟨o0, o1, o2, o3, o4, o5, o6, o7, o8⟩ := id hOT
  refine Call.of (M := mX6_firsts) (n := 3) (by decide +kernel) rfl ?_
  show WP _ _ _ _ 0 [some (.ref 0), some (.int x), some (.int g), some (.int r), some (.int i), some (.int n), none, none, none] [] _
  refine wp_aload_n (pc := 0) (i := 0) dX6_firsts_0 rfl rfl ?_
  refine wp_iload_n (pc := 1) (i := 1) dX6_firsts_1 rfl rfl ?_
  refine wp_iload_n (pc := 2) (i := 2) dX6_firsts_2 rfl rfl ?_
  refine wp_iload_n (pc := 3) (i := 3) dX6_firsts_3 rfl rfl ?_
  refine wp_iload (pc := 4) (i := 4) dX6_firsts_4 rfl ?_
  refine wp_iload (pc := 6) (i := 5) dX6_firsts_6 rfl ?_
  rotate_left
  refine wp_cV5i (pc := 8) lk_X6_250 dX6_firsts_8 rfl rfl rfl (sp_refusal H hO (fun v s e1 e2 h1 H1 hr1 => ?_) (fun e1 => ?_))
  · rw [fFirsts, toldA, e1] at k
    refine wp_istore (pc := 11) (i := 6) dX6_firsts_11 rfl (by decide) rfl ?_
    dsimp only [List.set_cons_zero, List.set_cons_succ]
    refine wp_iload (pc := 13) (i := 6) dX6_firsts_13 rfl ?_
    rotate_left
    refine wp_if_eq (pc := 15) (tgt := 21) dX6_firsts_15 (by decide) (fun c15 => absurd c15 e2) (fun c15 => ?_)
    refine wp_iload (pc := 18) (i := 6) dX6_firsts_18 rfl ?_
    refine wp_iret (pc := 20) dX6_firsts_20 rfl ?_
    rotate_left
    exact k h1 H1 hr1
  rw [fFirsts, toldA, e1] at k
  obtain ⟨x', g', r', i', n', y, rfl, rfl, rfl, rfl, rfl, hx, hg, hr, hn1, hn, hy, hi⟩ := told_none o1 o0 e1
  have hy4 := (hO.2.2.2.1 r' y hy).2
  rw [nI_clamp (show x' < 2 ^ 31 by omega), nI_clamp (show g' < 2 ^ 31 by omega), nI_clamp (show r' < 2 ^ 31 by omega), nI_clamp (show i' < 2 ^ 31 by omega), nI_clamp (show n' < 2 ^ 31 by omega)] at k
  have H0 : DI (hs h 0 12 (nI 0)) (upS σ 0) := H.st
  have loop : ∀ m j h1, j + m = gT σ 0 → FQ (hs h 0 12 (nI 0)) h1 → WP G (d + 5) mX6_firsts (pI K) 27 [some (.ref 0), some (.int (nI x')), some (.int (nI g')), some (.int (nI r')), some (.int (nI i')), some (.int (nI n')), some (.int (nI 0)), some (.int (nI (orU (fun v => fso (up (gT σ) (32 + g') v) x' (itm σ r' i') n') 0 j))), some (.int (nI (0 + j)))] [] h1 := by
    intro m
    induction m with
    | zero =>
      intro j h1 hjm hq1
      have hT1 : TW h1 27 (gT σ) := (H0.tri hq1).1
      have e3 : h1 27 2 = nI (gT σ 0) := hT1.2.2.1
      refine wp_iload (pc := 27) (i := 8) dX6_firsts_27 rfl ?_
      refine wp_aload_n (pc := 29) (i := 0) dX6_firsts_29 rfl rfl ?_
      refine wp_gfr (pc := 30) fk_X6_26 dX6_firsts_30 rfl rfl (by decide) ?_
      refine wp_gfv (pc := 33) fk_X6_260 dX6_firsts_33 rfl rfl (by first | with_reducible assumption | with_reducible exact hs_same _ _ _ _ | rfl) ?_
      first | (with_reducible show WP _ _ _ _ _ _ (Value.int (nI _) :: Value.int (nI _) :: _) _; refine wp_icmp_geN (pc := 36) (tgt := 86) dX6_firsts_36 (by decide) (by omega) (by omega) (fun c36 => ?_) (fun c36 => ?_)) | refine wp_icmp_ge (pc := 36) (tgt := 86) dX6_firsts_36 (by decide) (fun c36 => ?_) (fun c36 => ?_)
      refine wp_iload (pc := 86) (i := 7) dX6_firsts_86 rfl ?_
      refine wp_iret (pc := 88) dX6_firsts_88 rfl ?_
      rotate_left
      rotate_left
      · rw [show j = gT σ 0 by omega]; exact k h1 (H0.tri hq1) (fun a ha => by rw [hq1 a (by omega), hs_ne (by omega)])
      · exact absurd hjm (by omega)
    | succ m ih =>
      intro j h1 hjm hq1
      have H1 := H0.tri hq1
      have hT1 : TW h1 27 (gT σ) := H1.1
      have e3 : h1 27 2 = nI (gT σ 0) := hT1.2.2.1
      have w := fun h2 q => ih (j + 1) h2 (by omega) q
      rw [show orU (fun v => fso (up (gT σ) (32 + g') v) x' (itm σ r' i') n') 0 (j + 1) = orU (fun v => fso (up (gT σ) (32 + g') v) x' (itm σ r' i') n') 0 j ||| (if fso (up (gT σ) (32 + g') (0 + j)) x' (itm σ r' i') n' then 1 * 2 ^ (0 + j) else 0) from rfl, ← Nat.add_assoc] at w
      have hlt := orU_lt (fun v => fso (up (gT σ) (32 + g') v) x' (itm σ r' i') n') 0 j
      have hlt2 : 2 ^ (0 + j) ≤ 2 ^ 6 := Nat.pow_le_pow_right (by decide) (by omega)
      have q1 := okt_fir (v := 0 + j) hOT hg (by omega)
      refine wp_iload (pc := 27) (i := 8) dX6_firsts_27 rfl ?_
      refine wp_aload_n (pc := 29) (i := 0) dX6_firsts_29 rfl rfl ?_
      refine wp_gfr (pc := 30) fk_X6_26 dX6_firsts_30 rfl rfl (by decide) ?_
      refine wp_gfv (pc := 33) fk_X6_260 dX6_firsts_33 rfl rfl (by first | with_reducible assumption | with_reducible exact hs_same _ _ _ _ | rfl) ?_
      first | (with_reducible show WP _ _ _ _ _ _ (Value.int (nI _) :: Value.int (nI _) :: _) _; refine wp_icmp_geN (pc := 36) (tgt := 86) dX6_firsts_36 (by decide) (by omega) (by omega) (fun c36 => ?_) (fun c36 => ?_)) | refine wp_icmp_ge (pc := 36) (tgt := 86) dX6_firsts_36 (by decide) (fun c36 => ?_) (fun c36 => ?_)
      rotate_left
      refine wp_aload_n (pc := 39) (i := 0) dX6_firsts_39 rfl rfl ?_
      refine wp_cV0v (pc := 40) lk_X6_212 dX6_firsts_40 rfl rfl rfl (sp_openTrial hT1 hOT (fun h2 hW2 hf2 => ?_))
      rotate_left
      · exact absurd hjm (by omega)
      have hW3 := hW2.fir (v := 0 + j) hOT hg
      have f3 : FQ (hs h 0 12 (nI 0)) (hs h2 45 g' (nI (0 + j))) := fun a ha => by rw [hs_ne (by omega), hf2 a (by omega)]; exact hq1 a ha
      have it : ∀ q, q < n' → hs h2 45 g' (nI (0 + j)) (3 + r') (i' + q) = itm σ r' i' q := dr_itm (σ := upS σ 0) (H0.tri f3) hr hy hi
      refine wp_aload_n (pc := 43) (i := 0) dX6_firsts_43 rfl rfl ?_
      refine wp_gfr (pc := 44) fk_X6_30 dX6_firsts_44 rfl rfl (by decide) ?_
      refine wp_gfr (pc := 47) fk_X6_177 dX6_firsts_47 rfl rfl (by decide) ?_
      refine wp_iload_n (pc := 50) (i := 2) dX6_firsts_50 rfl rfl ?_
      refine wp_iload (pc := 51) (i := 8) dX6_firsts_51 rfl ?_
      first | (with_reducible show WP _ _ _ _ _ _ (_ :: Value.int (nI _) :: _) _; refine wp_iastN (pc := 53) dX6_firsts_53 rfl (by omega) ?_) | refine wp_iast (pc := 53) dX6_firsts_53 rfl (by assumption) rfl ?_
      refine wp_iload (pc := 54) (i := 7) dX6_firsts_54 rfl ?_
      refine wp_aload_n (pc := 56) (i := 0) dX6_firsts_56 rfl rfl ?_
      refine wp_iload_n (pc := 57) (i := 1) dX6_firsts_57 rfl rfl ?_
      refine wp_iload_n (pc := 58) (i := 3) dX6_firsts_58 rfl rfl ?_
      refine wp_iload (pc := 59) (i := 4) dX6_firsts_59 rfl ?_
      refine wp_iload (pc := 61) (i := 5) dX6_firsts_61 rfl ?_
      refine wp_cV4i (pc := 63) lk_X6_256 dX6_firsts_63 rfl rfl rfl (sp_isFedAsTold hW3 q1 (by rw [up_ne (by omega)]; omega) (by rw [up_ne (by omega)]; exact hx) hr hn (by omega) (by rw [up_ne (by omega)]; exact hd) it (fun h4 hf4 => ?_))
      rotate_left
      have f4 : FQ (hs h 0 12 (nI 0)) h4 := fun a ha => by rw [hf4 a ha]; exact f3 a ha
      have w := w h4 f4
      first | (with_reducible show WP _ _ _ _ _ _ (Value.int (bI _) :: _) _; refine wp_if_eqB (pc := 66) (tgt := 76) dX6_firsts_66 (by decide) (fun c66 => ?_) (fun c66 => ?_)) | (with_reducible show WP _ _ _ _ _ _ (Value.int (nI _) :: _) _; refine wp_if_eqN (pc := 66) (tgt := 76) dX6_firsts_66 (by decide) (by omega) (fun c66 => ?_) (fun c66 => ?_)) | refine wp_if_eq (pc := 66) (tgt := 76) dX6_firsts_66 (by decide) (fun c66 => ?_) (fun c66 => ?_)
      refine wp_iconst (pc := 76) (v := nI 0) dX6_firsts_76 rfl ?_
      first | (with_reducible show WP _ _ _ _ _ _ (Value.int (nI _) :: Value.int (nI _) :: _) _; refine wp_iorN (pc := 77) dX6_firsts_77 ?_) | refine wp_ior (pc := 77) dX6_firsts_77 ?_
      refine wp_istore (pc := 78) (i := 7) dX6_firsts_78 rfl (by decide) rfl ?_
      dsimp only [List.set_cons_zero, List.set_cons_succ]
      first | refine wp_iincN (pc := 80) (i := 8) (n := 1) dX6_firsts_80 rfl rfl (by decide) rfl ?_ | refine wp_iinc (pc := 80) (i := 8) dX6_firsts_80 rfl rfl rfl (by decide) rfl ?_
      dsimp only [List.set_cons_zero, List.set_cons_succ]
      refine wp_goto (pc := 83) (tgt := 27) dX6_firsts_83 (by decide) ?_
      rotate_left
      refine wp_iconst (pc := 69) (v := nI 1) dX6_firsts_69 rfl ?_
      refine wp_iload (pc := 70) (i := 8) dX6_firsts_70 rfl ?_
      first | (with_reducible show WP _ _ _ _ _ _ (Value.int (nI _) :: Value.int (nI _) :: _) _; refine wp_ishlN (pc := 72) dX6_firsts_72 (by omega) ?_) | refine wp_ishl (pc := 72) dX6_firsts_72 ?_
      refine wp_goto (pc := 73) (tgt := 77) dX6_firsts_73 (by decide) ?_
      first | (with_reducible show WP _ _ _ _ _ _ (Value.int (nI _) :: Value.int (nI _) :: _) _; refine wp_iorN (pc := 77) dX6_firsts_77 ?_) | refine wp_ior (pc := 77) dX6_firsts_77 ?_
      refine wp_istore (pc := 78) (i := 7) dX6_firsts_78 rfl (by decide) rfl ?_
      dsimp only [List.set_cons_zero, List.set_cons_succ]
      first | refine wp_iincN (pc := 80) (i := 8) (n := 1) dX6_firsts_80 rfl rfl (by decide) rfl ?_ | refine wp_iinc (pc := 80) (i := 8) dX6_firsts_80 rfl rfl rfl (by decide) rfl ?_
      dsimp only [List.set_cons_zero, List.set_cons_succ]
      refine wp_goto (pc := 83) (tgt := 27) dX6_firsts_83 (by decide) ?_
      rotate_left
      · rw [c66] at w; exact w
      · rw [c66] at w; exact w
  refine wp_istore (pc := 11) (i := 6) dX6_firsts_11 rfl (by decide) rfl ?_
  dsimp only [List.set_cons_zero, List.set_cons_succ]
  refine wp_iload (pc := 13) (i := 6) dX6_firsts_13 rfl ?_
  first | (with_reducible show WP _ _ _ _ _ _ (Value.int (bI _) :: _) _; refine wp_if_eqB (pc := 15) (tgt := 21) dX6_firsts_15 (by decide) (fun c15 => ?_) (fun c15 => ?_)) | (with_reducible show WP _ _ _ _ _ _ (Value.int (nI _) :: _) _; refine wp_if_eqN (pc := 15) (tgt := 21) dX6_firsts_15 (by decide) (by omega) (fun c15 => ?_) (fun c15 => ?_)) | refine wp_if_eq (pc := 15) (tgt := 21) dX6_firsts_15 (by decide) (fun c15 => ?_) (fun c15 => ?_)
  refine wp_iconst (pc := 21) (v := nI 0) dX6_firsts_21 rfl ?_
  refine wp_istore (pc := 22) (i := 7) dX6_firsts_22 rfl (by decide) rfl ?_
  dsimp only [List.set_cons_zero, List.set_cons_succ]
  refine wp_iconst (pc := 24) (v := nI 0) dX6_firsts_24 rfl ?_
  refine wp_istore (pc := 25) (i := 8) dX6_firsts_25 rfl (by decide) rfl ?_
  dsimp only [List.set_cons_zero, List.set_cons_succ]
  rotate_left
  rotate_left
  · exact loop (gT σ 0) 0 _ (by omega) (fun _ _ => rfl)
  · exact absurd rfl c15
theorem sd_steps {x g r i n : Int32} {K : Int32 → Hp → Prop} (H : DI h σ) (hO : OKS σ) (k : ∀ h', DI h' (fSteps σ x g r i n).2 → RS h h' → K (fSteps σ x g r i n).1 h') : Call G (d + 5) mX6_steps [.ref 0, .int x, .int g, .int r, .int i, .int n] h (pI K) := by
  have hOT := hO.1.1
  have hd := hO.1.2
  obtain ⟨o0, o1, o2, o3, o4, o5, o6, o7, o8⟩ := id hOT
  refine Call.of (M := mX6_steps) (n := 3) (by decide +kernel) rfl ?_
  show WP _ _ _ _ 0 [some (.ref 0), some (.int x), some (.int g), some (.int r), some (.int i), some (.int n), none, none, none] [] _
  refine wp_aload_n (pc := 0) (i := 0) dX6_steps_0 rfl rfl ?_
  refine wp_iload_n (pc := 1) (i := 1) dX6_steps_1 rfl rfl ?_
  refine wp_iload_n (pc := 2) (i := 2) dX6_steps_2 rfl rfl ?_
  refine wp_iload_n (pc := 3) (i := 3) dX6_steps_3 rfl rfl ?_
  refine wp_iload (pc := 4) (i := 4) dX6_steps_4 rfl ?_
  refine wp_iload (pc := 6) (i := 5) dX6_steps_6 rfl ?_
  rotate_left
  refine wp_cV5i (pc := 8) lk_X6_250 dX6_steps_8 rfl rfl rfl (sp_refusal H hO (fun v s e1 e2 h1 H1 hr1 => ?_) (fun e1 => ?_))
  · rw [fSteps, toldA, e1] at k
    refine wp_istore (pc := 11) (i := 6) dX6_steps_11 rfl (by decide) rfl ?_
    dsimp only [List.set_cons_zero, List.set_cons_succ]
    refine wp_iload (pc := 13) (i := 6) dX6_steps_13 rfl ?_
    rotate_left
    refine wp_if_eq (pc := 15) (tgt := 21) dX6_steps_15 (by decide) (fun c15 => absurd c15 e2) (fun c15 => ?_)
    refine wp_iload (pc := 18) (i := 6) dX6_steps_18 rfl ?_
    refine wp_iret (pc := 20) dX6_steps_20 rfl ?_
    rotate_left
    exact k h1 H1 hr1
  rw [fSteps, toldA, e1] at k
  obtain ⟨x', g', r', i', n', y, rfl, rfl, rfl, rfl, rfl, hx, hg, hr, hn1, hn, hy, hi⟩ := told_none o1 o0 e1
  have hy4 := (hO.2.2.2.1 r' y hy).2
  rw [nI_clamp (show x' < 2 ^ 31 by omega), nI_clamp (show g' < 2 ^ 31 by omega), nI_clamp (show r' < 2 ^ 31 by omega), nI_clamp (show i' < 2 ^ 31 by omega), nI_clamp (show n' < 2 ^ 31 by omega)] at k
  have H0 : DI (hs h 0 12 (nI 0)) (upS σ 0) := H.st
  have loop : ∀ m j h1, j + m = 5 → FQ (hs h 0 12 (nI 0)) h1 → WP G (d + 5) mX6_steps (pI K) 27 [some (.ref 0), some (.int (nI x')), some (.int (nI g')), some (.int (nI r')), some (.int (nI i')), some (.int (nI n')), some (.int (nI 0)), some (.int (nI (orU (fun v => fso (up (gT σ) (38 + g') v) x' (itm σ r' i') n') 0 j))), some (.int (nI (0 + j)))] [] h1 := by
    intro m
    induction m with
    | zero =>
      intro j h1 hjm hq1
      have hT1 : TW h1 27 (gT σ) := (H0.tri hq1).1
      have e3 : h1 27 2 = nI (gT σ 0) := hT1.2.2.1
      refine wp_iload (pc := 27) (i := 8) dX6_steps_27 rfl ?_
      refine wp_iconst (pc := 29) (v := nI 4) dX6_steps_29 rfl ?_
      first | (with_reducible show WP _ _ _ _ _ _ (Value.int (nI _) :: Value.int (nI _) :: _) _; refine wp_icmp_gtN (pc := 30) (tgt := 80) dX6_steps_30 (by decide) (by omega) (by omega) (fun c30 => ?_) (fun c30 => ?_)) | refine wp_icmp_gt (pc := 30) (tgt := 80) dX6_steps_30 (by decide) (fun c30 => ?_) (fun c30 => ?_)
      refine wp_iload (pc := 80) (i := 7) dX6_steps_80 rfl ?_
      refine wp_iret (pc := 82) dX6_steps_82 rfl ?_
      rotate_left
      rotate_left
      · rw [show j = 5 by omega]; exact k h1 (H0.tri hq1) (fun a ha => by rw [hq1 a (by omega), hs_ne (by omega)])
      · exact absurd hjm (by omega)
    | succ m ih =>
      intro j h1 hjm hq1
      have H1 := H0.tri hq1
      have hT1 : TW h1 27 (gT σ) := H1.1
      have e3 : h1 27 2 = nI (gT σ 0) := hT1.2.2.1
      have w := fun h2 q => ih (j + 1) h2 (by omega) q
      rw [show orU (fun v => fso (up (gT σ) (38 + g') v) x' (itm σ r' i') n') 0 (j + 1) = orU (fun v => fso (up (gT σ) (38 + g') v) x' (itm σ r' i') n') 0 j ||| (if fso (up (gT σ) (38 + g') (0 + j)) x' (itm σ r' i') n' then 1 * 2 ^ (0 + j) else 0) from rfl, ← Nat.add_assoc] at w
      have hlt := orU_lt (fun v => fso (up (gT σ) (38 + g') v) x' (itm σ r' i') n') 0 j
      have hlt2 : 2 ^ (0 + j) ≤ 2 ^ 6 := Nat.pow_le_pow_right (by decide) (by omega)
      have q1 := okt_ste (v := 0 + j) hOT hg (by omega)
      refine wp_iload (pc := 27) (i := 8) dX6_steps_27 rfl ?_
      refine wp_iconst (pc := 29) (v := nI 4) dX6_steps_29 rfl ?_
      first | (with_reducible show WP _ _ _ _ _ _ (Value.int (nI _) :: Value.int (nI _) :: _) _; refine wp_icmp_gtN (pc := 30) (tgt := 80) dX6_steps_30 (by decide) (by omega) (by omega) (fun c30 => ?_) (fun c30 => ?_)) | refine wp_icmp_gt (pc := 30) (tgt := 80) dX6_steps_30 (by decide) (fun c30 => ?_) (fun c30 => ?_)
      rotate_left
      refine wp_aload_n (pc := 33) (i := 0) dX6_steps_33 rfl rfl ?_
      refine wp_cV0v (pc := 34) lk_X6_212 dX6_steps_34 rfl rfl rfl (sp_openTrial hT1 hOT (fun h2 hW2 hf2 => ?_))
      rotate_left
      · exact absurd hjm (by omega)
      have hW3 := hW2.ste (v := 0 + j) hOT hg
      have f3 : FQ (hs h 0 12 (nI 0)) (hs h2 46 g' (nI (0 + j))) := fun a ha => by rw [hs_ne (by omega), hf2 a (by omega)]; exact hq1 a ha
      have it : ∀ q, q < n' → hs h2 46 g' (nI (0 + j)) (3 + r') (i' + q) = itm σ r' i' q := dr_itm (σ := upS σ 0) (H0.tri f3) hr hy hi
      refine wp_aload_n (pc := 37) (i := 0) dX6_steps_37 rfl rfl ?_
      refine wp_gfr (pc := 38) fk_X6_30 dX6_steps_38 rfl rfl (by decide) ?_
      refine wp_gfr (pc := 41) fk_X6_180 dX6_steps_41 rfl rfl (by decide) ?_
      refine wp_iload_n (pc := 44) (i := 2) dX6_steps_44 rfl rfl ?_
      refine wp_iload (pc := 45) (i := 8) dX6_steps_45 rfl ?_
      first | (with_reducible show WP _ _ _ _ _ _ (_ :: Value.int (nI _) :: _) _; refine wp_iastN (pc := 47) dX6_steps_47 rfl (by omega) ?_) | refine wp_iast (pc := 47) dX6_steps_47 rfl (by assumption) rfl ?_
      refine wp_iload (pc := 48) (i := 7) dX6_steps_48 rfl ?_
      refine wp_aload_n (pc := 50) (i := 0) dX6_steps_50 rfl rfl ?_
      refine wp_iload_n (pc := 51) (i := 1) dX6_steps_51 rfl rfl ?_
      refine wp_iload_n (pc := 52) (i := 3) dX6_steps_52 rfl rfl ?_
      refine wp_iload (pc := 53) (i := 4) dX6_steps_53 rfl ?_
      refine wp_iload (pc := 55) (i := 5) dX6_steps_55 rfl ?_
      refine wp_cV4i (pc := 57) lk_X6_256 dX6_steps_57 rfl rfl rfl (sp_isFedAsTold hW3 q1 (by rw [up_ne (by omega)]; omega) (by rw [up_ne (by omega)]; exact hx) hr hn (by omega) (by rw [up_ne (by omega)]; exact hd) it (fun h4 hf4 => ?_))
      rotate_left
      have f4 : FQ (hs h 0 12 (nI 0)) h4 := fun a ha => by rw [hf4 a ha]; exact f3 a ha
      have w := w h4 f4
      first | (with_reducible show WP _ _ _ _ _ _ (Value.int (bI _) :: _) _; refine wp_if_eqB (pc := 60) (tgt := 70) dX6_steps_60 (by decide) (fun c60 => ?_) (fun c60 => ?_)) | (with_reducible show WP _ _ _ _ _ _ (Value.int (nI _) :: _) _; refine wp_if_eqN (pc := 60) (tgt := 70) dX6_steps_60 (by decide) (by omega) (fun c60 => ?_) (fun c60 => ?_)) | refine wp_if_eq (pc := 60) (tgt := 70) dX6_steps_60 (by decide) (fun c60 => ?_) (fun c60 => ?_)
      refine wp_iconst (pc := 70) (v := nI 0) dX6_steps_70 rfl ?_
      first | (with_reducible show WP _ _ _ _ _ _ (Value.int (nI _) :: Value.int (nI _) :: _) _; refine wp_iorN (pc := 71) dX6_steps_71 ?_) | refine wp_ior (pc := 71) dX6_steps_71 ?_
      refine wp_istore (pc := 72) (i := 7) dX6_steps_72 rfl (by decide) rfl ?_
      dsimp only [List.set_cons_zero, List.set_cons_succ]
      first | refine wp_iincN (pc := 74) (i := 8) (n := 1) dX6_steps_74 rfl rfl (by decide) rfl ?_ | refine wp_iinc (pc := 74) (i := 8) dX6_steps_74 rfl rfl rfl (by decide) rfl ?_
      dsimp only [List.set_cons_zero, List.set_cons_succ]
      refine wp_goto (pc := 77) (tgt := 27) dX6_steps_77 (by decide) ?_
      rotate_left
      refine wp_iconst (pc := 63) (v := nI 1) dX6_steps_63 rfl ?_
      refine wp_iload (pc := 64) (i := 8) dX6_steps_64 rfl ?_
      first | (with_reducible show WP _ _ _ _ _ _ (Value.int (nI _) :: Value.int (nI _) :: _) _; refine wp_ishlN (pc := 66) dX6_steps_66 (by omega) ?_) | refine wp_ishl (pc := 66) dX6_steps_66 ?_
      refine wp_goto (pc := 67) (tgt := 71) dX6_steps_67 (by decide) ?_
      first | (with_reducible show WP _ _ _ _ _ _ (Value.int (nI _) :: Value.int (nI _) :: _) _; refine wp_iorN (pc := 71) dX6_steps_71 ?_) | refine wp_ior (pc := 71) dX6_steps_71 ?_
      refine wp_istore (pc := 72) (i := 7) dX6_steps_72 rfl (by decide) rfl ?_
      dsimp only [List.set_cons_zero, List.set_cons_succ]
      first | refine wp_iincN (pc := 74) (i := 8) (n := 1) dX6_steps_74 rfl rfl (by decide) rfl ?_ | refine wp_iinc (pc := 74) (i := 8) dX6_steps_74 rfl rfl rfl (by decide) rfl ?_
      dsimp only [List.set_cons_zero, List.set_cons_succ]
      refine wp_goto (pc := 77) (tgt := 27) dX6_steps_77 (by decide) ?_
      rotate_left
      · rw [c60] at w; exact w
      · rw [c60] at w; exact w
  refine wp_istore (pc := 11) (i := 6) dX6_steps_11 rfl (by decide) rfl ?_
  dsimp only [List.set_cons_zero, List.set_cons_succ]
  refine wp_iload (pc := 13) (i := 6) dX6_steps_13 rfl ?_
  first | (with_reducible show WP _ _ _ _ _ _ (Value.int (bI _) :: _) _; refine wp_if_eqB (pc := 15) (tgt := 21) dX6_steps_15 (by decide) (fun c15 => ?_) (fun c15 => ?_)) | (with_reducible show WP _ _ _ _ _ _ (Value.int (nI _) :: _) _; refine wp_if_eqN (pc := 15) (tgt := 21) dX6_steps_15 (by decide) (by omega) (fun c15 => ?_) (fun c15 => ?_)) | refine wp_if_eq (pc := 15) (tgt := 21) dX6_steps_15 (by decide) (fun c15 => ?_) (fun c15 => ?_)
  refine wp_iconst (pc := 21) (v := nI 0) dX6_steps_21 rfl ?_
  refine wp_istore (pc := 22) (i := 7) dX6_steps_22 rfl (by decide) rfl ?_
  dsimp only [List.set_cons_zero, List.set_cons_succ]
  refine wp_iconst (pc := 24) (v := nI 0) dX6_steps_24 rfl ?_
  refine wp_istore (pc := 25) (i := 8) dX6_steps_25 rfl (by decide) rfl ?_
  dsimp only [List.set_cons_zero, List.set_cons_succ]
  rotate_left
  rotate_left
  · exact loop (5) 0 _ (by omega) (fun _ _ => rfl)
  · exact absurd rfl c15
end DWHO
