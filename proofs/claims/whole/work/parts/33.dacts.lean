/-! what is done, in the class -/
def upT (σ : Sg) (T : Tn) : Sg := (T, gP σ, gIm σ, gR σ, gB σ, gF σ, gS σ, gK σ)
def upTP (σ : Sg) (T : Tn) (P : List Tn) : Sg := (T, P, gIm σ, gR σ, gB σ, gF σ, gS σ, gK σ)
/-- an act: the town was T, is T' -/
def act (σ : Sg) (T' : Tn) : Sg := upTP σ T' (pastOf (gP σ) (gT σ))
def fSick (σ : Sg) (x n : Int32) : Int32 × Sg := if inN x (gT σ 1) && btw n 0 60 then (nI (gT σ (44 + x.toNatClampNeg)), act σ (up (gT σ) (44 + x.toNatClampNeg) n.toNatClampNeg)) else (kBAD, σ)
def fSwap (σ : Sg) (x n : Int32) : Int32 × Sg := if inN x (gT σ 1) && inN n (gT σ 0) then (nI (gT σ (32 + x.toNatClampNeg)), act σ (up (gT σ) (32 + x.toNatClampNeg) n.toNatClampNeg)) else (kBAD, σ)
def fPace (σ : Sg) (x n : Int32) : Int32 × Sg := if inN x (gT σ 1) && btw n 0 4 then (nI (gT σ (38 + x.toNatClampNeg)), act σ (up (gT σ) (38 + x.toNatClampNeg) n.toNatClampNeg)) else (kBAD, σ)
def fSpoil (σ : Sg) (x n : Int32) : Int32 × Sg := if inN x (gT σ 0) && btw n 1 20 then (nI (min 20 (gT σ (10 + x.toNatClampNeg) + n.toNatClampNeg)), act σ (up (gT σ) (10 + x.toNatClampNeg) (min 20 (gT σ (10 + x.toNatClampNeg) + n.toNatClampNeg)))) else (kBAD, σ)
/-- two quarrel, or no more -/
def qrl (T : Tn) (g o : Nat) : Tn := up (up T (50 + g) (T (50 + g) ^^^ 1 * 2 ^ o)) (50 + o) (T (50 + o) ^^^ 1 * 2 ^ g)
def fQuarrel (σ : Sg) (x y n : Int32) : Int32 × Sg := if inN x (gT σ 1) && inN y (gT σ 1) && decide (x ≠ y) && btw n 0 1 then
    (if (gT σ (50 + x.toNatClampNeg)).testBit y.toNatClampNeg = decide (n = nI 1) then (kSTATE, σ) else (nI (gT σ (50 + x.toNatClampNeg) ^^^ 1 * 2 ^ y.toNatClampNeg), act σ (qrl (gT σ) x.toNatClampNeg y.toNatClampNeg))) else (kBAD, σ)
/-- n days, each an act -/
def dys (σ : Sg) : Nat → Sg
  | 0 => σ
  | n + 1 => act (dys σ n) (passT (gT (dys σ n)))
def fDays (σ : Sg) (n : Int32) : Int32 × Sg := if gT σ 1 = 0 then (kSTATE, σ) else if btw n 1 24 then (if gT σ 4 + n.toNatClampNeg ≤ 999 then (nI (gT σ 4 + n.toNatClampNeg), dys σ n.toNatClampNeg) else (kFULL, σ)) else (kBAD, σ)
def fUndo (σ : Sg) : Int32 × Sg := match (gP σ).getLast? with
  | none => (kSTATE, σ)
  | some T => (nI ((gP σ).length - 1), upTP σ T (gP σ).dropLast)
def upIm (σ : Sg) (k : Nat) (T : Tn) : Sg := (gT σ, gP σ, fun q => if q = k then some T else gIm σ q, gR σ, gB σ, gF σ, gS σ, gK σ)
def fImage (σ : Sg) (x : Int32) : Int32 × Sg := if btw x 0 1 then (if gT σ 1 = 0 then (kSTATE, σ) else (nI 1, upIm σ x.toNatClampNeg (gT σ))) else (kBAD, σ)
def fRestore (σ : Sg) (x : Int32) : Int32 × Sg := if btw x 0 1 then (match gIm σ x.toNatClampNeg with
  | none => (kSTATE, σ)
  | some T => (nI 1, upTP σ T [])) else (kBAD, σ)
section DACTS
variable {G : Gt} {d : Nat} {h : Hp} {σ : Sg}
/-- the town's and the acts' cells alone have changed -/
theorem DI.acts {h' : Hp} {T' : Tn} {P : List Tn} (H : DI h σ) (hW : TW h' 27 T') (hA : DA h' P) (e : ∀ a, a < 27 ∨ (78 < a ∧ a < 89) → h' a = h a) : DI h' (upTP σ T' P) := by
  obtain ⟨a, b, c, f, f2, g1, g2, k⟩ := H
  exact ⟨hW, hA, c.cg (fun q _ _ => e q (by omega)), f.cg (fun q _ _ => e q (by omega)), f2.cg (by rw [e 13 (by omega)]) (e 14 (by omega)), by rw [e 0 (by omega)]; exact g1, by rw [e 0 (by omega)]; exact g2, k.cg (e 83 (by omega)) (e 84 (by omega))⟩
theorem keep_frame {h h1 : Hp} (hf : ∀ a, a < 53 ∨ 78 < a → h1 a = h a) {T : Tn} (hW : TW h 27 T) : TW h1 27 T := hW.cg2 (fun q _ _ => hf q (by omega))
theorem sd_sick {x n : Int32} {K : Int32 → Hp → Prop} (H : DI h σ) (hO : OKT (gT σ)) (k : ∀ h', DI h' (fSick σ x n).2 → RS h h' → K (fSick σ x n).1 h') : Call G (d + 2) mX6_sick [.ref 0, .int x, .int n] h (pI K) := by
  have hW := H.1
  obtain ⟨o0, o1, o2, o3, o4, o5, o6, o7, o8⟩ := id hO
  refine Call.of (M := mX6_sick) (n := 1) (by decide +kernel) rfl ?_
  show WP _ _ _ _ 0 [some (.ref 0), some (.int x), some (.int n), none] [] _
  refine wp_aload_n (pc := 0) (i := 0) dX6_sick_0 rfl rfl ?_
  refine wp_gfr (pc := 1) fk_X6_26 dX6_sick_1 rfl rfl (by decide) ?_
  refine wp_iload_n (pc := 4) (i := 1) dX6_sick_4 rfl rfl ?_
  refine wp_cV1i (pc := 5) lk_X6_168 dX6_sick_5 rfl rfl rfl (sp_hasGran isT_27 hW hO ?_)
  first | (with_reducible show WP _ _ _ _ _ _ (Value.int (bI _) :: _) _; refine wp_if_eqB (pc := 8) (tgt := 21) dX6_sick_8 (by decide) (fun c8 => ?_) (fun c8 => ?_)) | (with_reducible show WP _ _ _ _ _ _ (Value.int (nI _) :: _) _; refine wp_if_eqN (pc := 8) (tgt := 21) dX6_sick_8 (by decide) (by omega) (fun c8 => ?_) (fun c8 => ?_)) | refine wp_if_eq (pc := 8) (tgt := 21) dX6_sick_8 (by decide) (fun c8 => ?_) (fun c8 => ?_)
  refine wp_ldc (pc := 21) kn_X6_78 dX6_sick_21 ?_
  refine wp_iret (pc := 23) dX6_sick_23 rfl ?_
  rotate_left
  refine wp_iload_n (pc := 11) (i := 2) dX6_sick_11 rfl rfl ?_
  refine wp_iconst (pc := 12) (v := nI 0) dX6_sick_12 rfl ?_
  refine wp_bipush (pc := 13) (v := nI 60) dX6_sick_13 rfl ?_
  refine wp_cS3i (pc := 15) lk_X6_74 dX6_sick_15 rfl (sp_btw (by decide) (by decide) ?_)
  first | (with_reducible show WP _ _ _ _ _ _ (Value.int (bI _) :: _) _; refine wp_if_neB (pc := 18) (tgt := 24) dX6_sick_18 (by decide) (fun c18 => ?_) (fun c18 => ?_)) | (with_reducible show WP _ _ _ _ _ _ (Value.int (nI _) :: _) _; refine wp_if_neN (pc := 18) (tgt := 24) dX6_sick_18 (by decide) (by omega) (fun c18 => ?_) (fun c18 => ?_)) | refine wp_if_ne (pc := 18) (tgt := 24) dX6_sick_18 (by decide) (fun c18 => ?_) (fun c18 => ?_)
  rotate_left
  refine wp_ldc (pc := 21) kn_X6_78 dX6_sick_21 ?_
  refine wp_iret (pc := 23) dX6_sick_23 rfl ?_
  rotate_left
  · rw [fSick, c8] at k; exact k h H RS.rf
  rotate_left
  · rw [fSick, c8, c18] at k; exact k h H RS.rf
  rw [fSick, c8, c18] at k
  obtain ⟨g, hg, rfl⟩ := inN_t (by omega) c8
  obtain ⟨m, -, hm, rfl⟩ := btw_t (by decide) c18
  rw [nI_clamp (show g < 2 ^ 31 by omega), nI_clamp (show m < 2 ^ 31 by omega)] at k
  refine wp_aload_n (pc := 24) (i := 0) dX6_sick_24 rfl rfl ?_
  refine wp_gfr (pc := 25) fk_X6_43 dX6_sick_25 rfl rfl (by decide) ?_
  refine wp_aload_n (pc := 28) (i := 0) dX6_sick_28 rfl rfl ?_
  refine wp_gfr (pc := 29) fk_X6_26 dX6_sick_29 rfl rfl (by decide) ?_
  refine wp_cV1v (pc := 32) lk_X6_161 dX6_sick_32 rfl rfl rfl (sp_keep hW hO H.2.1 (fun h1 hA1 hf1 => ?_))
  rotate_left
  have hW1 := keep_frame hf1 hW
  obtain ⟨r0, r1, r2, r3, r4, r5, r6, r7, r8, r9, r10, r11, r12, r13⟩ := id hW1
  have r5 : ∀ q, q < (gT σ) 0 → h1 28 q = nI ((gT σ) (5 + q)) := r5
  have r6 : ∀ q, q < (gT σ) 0 → h1 29 q = nI ((gT σ) (10 + q)) := r6
  have r7 : ∀ q, q < (gT σ) 0 → h1 30 q = nI ((gT σ) (15 + q)) := r7
  have r8 : ∀ q, q < (gT σ) 1 → h1 31 q = nI ((gT σ) (20 + q)) := r8
  have r9 : ∀ q, q < (gT σ) 1 → h1 32 q = nI ((gT σ) (26 + q)) := r9
  have r10 : ∀ q, q < (gT σ) 1 → h1 33 q = nI ((gT σ) (32 + q)) := r10
  have r11 : ∀ q, q < (gT σ) 1 → h1 34 q = nI ((gT σ) (38 + q)) := r11
  have r12 : ∀ q, q < (gT σ) 1 → h1 35 q = nI ((gT σ) (44 + q)) := r12
  have r13 : ∀ q, q < (gT σ) 1 → h1 36 q = nI ((gT σ) (50 + q)) := r13
  refine wp_aload_n (pc := 35) (i := 0) dX6_sick_35 rfl rfl ?_
  refine wp_gfr (pc := 36) fk_X6_26 dX6_sick_36 rfl rfl (by decide) ?_
  refine wp_gfr (pc := 39) fk_X6_171 dX6_sick_39 rfl rfl (by decide) ?_
  refine wp_iload_n (pc := 42) (i := 1) dX6_sick_42 rfl rfl ?_
  first | (with_reducible show WP _ _ _ _ _ _ (Value.int (nI _) :: _) _; refine wp_ialdN (pc := 43) dX6_sick_43 rfl (by omega) (by first | with_reducible assumption | with_reducible exact hs_same _ _ _ _ | with_reducible exact r12 _ (by omega) | rfl) ?_) | refine wp_iald (pc := 43) dX6_sick_43 rfl (by assumption) rfl ?_
  refine wp_istore_n (pc := 44) (i := 3) dX6_sick_44 rfl rfl (by decide) rfl ?_
  dsimp only [List.set_cons_zero, List.set_cons_succ]
  refine wp_aload_n (pc := 45) (i := 0) dX6_sick_45 rfl rfl ?_
  refine wp_gfr (pc := 46) fk_X6_26 dX6_sick_46 rfl rfl (by decide) ?_
  refine wp_gfr (pc := 49) fk_X6_171 dX6_sick_49 rfl rfl (by decide) ?_
  refine wp_iload_n (pc := 52) (i := 1) dX6_sick_52 rfl rfl ?_
  refine wp_iload_n (pc := 53) (i := 2) dX6_sick_53 rfl rfl ?_
  first | (with_reducible show WP _ _ _ _ _ _ (_ :: Value.int (nI _) :: _) _; refine wp_iastN (pc := 54) dX6_sick_54 rfl (by omega) ?_) | refine wp_iast (pc := 54) dX6_sick_54 rfl (by assumption) rfl ?_
  refine wp_iload_n (pc := 55) (i := 3) dX6_sick_55 rfl rfl ?_
  refine wp_iret (pc := 56) dX6_sick_56 rfl ?_
  rotate_left
  refine k _ (H.acts (hW1.ill hO hg) (hA1.cg (fun q _ _ => hs_ne (by omega))) (fun a ha => by rw [hs_ne (by omega)]; exact hf1 a (by omega))) (fun a ha => by rw [hs_ne (by omega)]; exact hf1 a (by omega))
theorem sd_swap {x n : Int32} {K : Int32 → Hp → Prop} (H : DI h σ) (hO : OKT (gT σ)) (k : ∀ h', DI h' (fSwap σ x n).2 → RS h h' → K (fSwap σ x n).1 h') : Call G (d + 2) mX6_swap [.ref 0, .int x, .int n] h (pI K) := by
  have hW := H.1
  obtain ⟨o0, o1, o2, o3, o4, o5, o6, o7, o8⟩ := id hO
  refine Call.of (M := mX6_swap) (n := 1) (by decide +kernel) rfl ?_
  show WP _ _ _ _ 0 [some (.ref 0), some (.int x), some (.int n), none] [] _
  refine wp_aload_n (pc := 0) (i := 0) dX6_swap_0 rfl rfl ?_
  refine wp_gfr (pc := 1) fk_X6_26 dX6_swap_1 rfl rfl (by decide) ?_
  refine wp_iload_n (pc := 4) (i := 1) dX6_swap_4 rfl rfl ?_
  refine wp_cV1i (pc := 5) lk_X6_168 dX6_swap_5 rfl rfl rfl (sp_hasGran isT_27 hW hO ?_)
  first | (with_reducible show WP _ _ _ _ _ _ (Value.int (bI _) :: _) _; refine wp_if_eqB (pc := 8) (tgt := 22) dX6_swap_8 (by decide) (fun c8 => ?_) (fun c8 => ?_)) | (with_reducible show WP _ _ _ _ _ _ (Value.int (nI _) :: _) _; refine wp_if_eqN (pc := 8) (tgt := 22) dX6_swap_8 (by decide) (by omega) (fun c8 => ?_) (fun c8 => ?_)) | refine wp_if_eq (pc := 8) (tgt := 22) dX6_swap_8 (by decide) (fun c8 => ?_) (fun c8 => ?_)
  refine wp_ldc (pc := 22) kn_X6_78 dX6_swap_22 ?_
  refine wp_iret (pc := 24) dX6_swap_24 rfl ?_
  rotate_left
  refine wp_aload_n (pc := 11) (i := 0) dX6_swap_11 rfl rfl ?_
  refine wp_gfr (pc := 12) fk_X6_26 dX6_swap_12 rfl rfl (by decide) ?_
  refine wp_iload_n (pc := 15) (i := 2) dX6_swap_15 rfl rfl ?_
  refine wp_cV1i (pc := 16) lk_X6_174 dX6_swap_16 rfl rfl rfl (sp_hasChild isT_27 hW hO ?_)
  first | (with_reducible show WP _ _ _ _ _ _ (Value.int (bI _) :: _) _; refine wp_if_neB (pc := 19) (tgt := 25) dX6_swap_19 (by decide) (fun c19 => ?_) (fun c19 => ?_)) | (with_reducible show WP _ _ _ _ _ _ (Value.int (nI _) :: _) _; refine wp_if_neN (pc := 19) (tgt := 25) dX6_swap_19 (by decide) (by omega) (fun c19 => ?_) (fun c19 => ?_)) | refine wp_if_ne (pc := 19) (tgt := 25) dX6_swap_19 (by decide) (fun c19 => ?_) (fun c19 => ?_)
  rotate_left
  refine wp_ldc (pc := 22) kn_X6_78 dX6_swap_22 ?_
  refine wp_iret (pc := 24) dX6_swap_24 rfl ?_
  rotate_left
  · rw [fSwap, c8] at k; exact k h H RS.rf
  rotate_left
  · rw [fSwap, c8, c19] at k; exact k h H RS.rf
  rw [fSwap, c8, c19] at k
  obtain ⟨g, hg, rfl⟩ := inN_t (by omega) c8
  obtain ⟨m, hm, rfl⟩ := inN_t (by omega) c19
  rw [nI_clamp (show g < 2 ^ 31 by omega), nI_clamp (show m < 2 ^ 31 by omega)] at k
  refine wp_aload_n (pc := 25) (i := 0) dX6_swap_25 rfl rfl ?_
  refine wp_gfr (pc := 26) fk_X6_43 dX6_swap_26 rfl rfl (by decide) ?_
  refine wp_aload_n (pc := 29) (i := 0) dX6_swap_29 rfl rfl ?_
  refine wp_gfr (pc := 30) fk_X6_26 dX6_swap_30 rfl rfl (by decide) ?_
  refine wp_cV1v (pc := 33) lk_X6_161 dX6_swap_33 rfl rfl rfl (sp_keep hW hO H.2.1 (fun h1 hA1 hf1 => ?_))
  rotate_left
  have hW1 := keep_frame hf1 hW
  obtain ⟨r0, r1, r2, r3, r4, r5, r6, r7, r8, r9, r10, r11, r12, r13⟩ := id hW1
  have r5 : ∀ q, q < (gT σ) 0 → h1 28 q = nI ((gT σ) (5 + q)) := r5
  have r6 : ∀ q, q < (gT σ) 0 → h1 29 q = nI ((gT σ) (10 + q)) := r6
  have r7 : ∀ q, q < (gT σ) 0 → h1 30 q = nI ((gT σ) (15 + q)) := r7
  have r8 : ∀ q, q < (gT σ) 1 → h1 31 q = nI ((gT σ) (20 + q)) := r8
  have r9 : ∀ q, q < (gT σ) 1 → h1 32 q = nI ((gT σ) (26 + q)) := r9
  have r10 : ∀ q, q < (gT σ) 1 → h1 33 q = nI ((gT σ) (32 + q)) := r10
  have r11 : ∀ q, q < (gT σ) 1 → h1 34 q = nI ((gT σ) (38 + q)) := r11
  have r12 : ∀ q, q < (gT σ) 1 → h1 35 q = nI ((gT σ) (44 + q)) := r12
  have r13 : ∀ q, q < (gT σ) 1 → h1 36 q = nI ((gT σ) (50 + q)) := r13
  refine wp_aload_n (pc := 36) (i := 0) dX6_swap_36 rfl rfl ?_
  refine wp_gfr (pc := 37) fk_X6_26 dX6_swap_37 rfl rfl (by decide) ?_
  refine wp_gfr (pc := 40) fk_X6_177 dX6_swap_40 rfl rfl (by decide) ?_
  refine wp_iload_n (pc := 43) (i := 1) dX6_swap_43 rfl rfl ?_
  first | (with_reducible show WP _ _ _ _ _ _ (Value.int (nI _) :: _) _; refine wp_ialdN (pc := 44) dX6_swap_44 rfl (by omega) (by first | with_reducible assumption | with_reducible exact hs_same _ _ _ _ | with_reducible exact r10 _ (by omega) | rfl) ?_) | refine wp_iald (pc := 44) dX6_swap_44 rfl (by assumption) rfl ?_
  refine wp_istore_n (pc := 45) (i := 3) dX6_swap_45 rfl rfl (by decide) rfl ?_
  dsimp only [List.set_cons_zero, List.set_cons_succ]
  refine wp_aload_n (pc := 46) (i := 0) dX6_swap_46 rfl rfl ?_
  refine wp_gfr (pc := 47) fk_X6_26 dX6_swap_47 rfl rfl (by decide) ?_
  refine wp_gfr (pc := 50) fk_X6_177 dX6_swap_50 rfl rfl (by decide) ?_
  refine wp_iload_n (pc := 53) (i := 1) dX6_swap_53 rfl rfl ?_
  refine wp_iload_n (pc := 54) (i := 2) dX6_swap_54 rfl rfl ?_
  first | (with_reducible show WP _ _ _ _ _ _ (_ :: Value.int (nI _) :: _) _; refine wp_iastN (pc := 55) dX6_swap_55 rfl (by omega) ?_) | refine wp_iast (pc := 55) dX6_swap_55 rfl (by assumption) rfl ?_
  refine wp_iload_n (pc := 56) (i := 3) dX6_swap_56 rfl rfl ?_
  refine wp_iret (pc := 57) dX6_swap_57 rfl ?_
  rotate_left
  refine k _ (H.acts (hW1.fir hO hg) (hA1.cg (fun q _ _ => hs_ne (by omega))) (fun a ha => by rw [hs_ne (by omega)]; exact hf1 a (by omega))) (fun a ha => by rw [hs_ne (by omega)]; exact hf1 a (by omega))
theorem sd_pace {x n : Int32} {K : Int32 → Hp → Prop} (H : DI h σ) (hO : OKT (gT σ)) (k : ∀ h', DI h' (fPace σ x n).2 → RS h h' → K (fPace σ x n).1 h') : Call G (d + 2) mX6_pace [.ref 0, .int x, .int n] h (pI K) := by
  have hW := H.1
  obtain ⟨o0, o1, o2, o3, o4, o5, o6, o7, o8⟩ := id hO
  refine Call.of (M := mX6_pace) (n := 1) (by decide +kernel) rfl ?_
  show WP _ _ _ _ 0 [some (.ref 0), some (.int x), some (.int n), none] [] _
  refine wp_aload_n (pc := 0) (i := 0) dX6_pace_0 rfl rfl ?_
  refine wp_gfr (pc := 1) fk_X6_26 dX6_pace_1 rfl rfl (by decide) ?_
  refine wp_iload_n (pc := 4) (i := 1) dX6_pace_4 rfl rfl ?_
  refine wp_cV1i (pc := 5) lk_X6_168 dX6_pace_5 rfl rfl rfl (sp_hasGran isT_27 hW hO ?_)
  first | (with_reducible show WP _ _ _ _ _ _ (Value.int (bI _) :: _) _; refine wp_if_eqB (pc := 8) (tgt := 20) dX6_pace_8 (by decide) (fun c8 => ?_) (fun c8 => ?_)) | (with_reducible show WP _ _ _ _ _ _ (Value.int (nI _) :: _) _; refine wp_if_eqN (pc := 8) (tgt := 20) dX6_pace_8 (by decide) (by omega) (fun c8 => ?_) (fun c8 => ?_)) | refine wp_if_eq (pc := 8) (tgt := 20) dX6_pace_8 (by decide) (fun c8 => ?_) (fun c8 => ?_)
  refine wp_ldc (pc := 20) kn_X6_78 dX6_pace_20 ?_
  refine wp_iret (pc := 22) dX6_pace_22 rfl ?_
  rotate_left
  refine wp_iload_n (pc := 11) (i := 2) dX6_pace_11 rfl rfl ?_
  refine wp_iconst (pc := 12) (v := nI 0) dX6_pace_12 rfl ?_
  refine wp_iconst (pc := 13) (v := nI 4) dX6_pace_13 rfl ?_
  refine wp_cS3i (pc := 14) lk_X6_74 dX6_pace_14 rfl (sp_btw (by decide) (by decide) ?_)
  first | (with_reducible show WP _ _ _ _ _ _ (Value.int (bI _) :: _) _; refine wp_if_neB (pc := 17) (tgt := 23) dX6_pace_17 (by decide) (fun c17 => ?_) (fun c17 => ?_)) | (with_reducible show WP _ _ _ _ _ _ (Value.int (nI _) :: _) _; refine wp_if_neN (pc := 17) (tgt := 23) dX6_pace_17 (by decide) (by omega) (fun c17 => ?_) (fun c17 => ?_)) | refine wp_if_ne (pc := 17) (tgt := 23) dX6_pace_17 (by decide) (fun c17 => ?_) (fun c17 => ?_)
  rotate_left
  refine wp_ldc (pc := 20) kn_X6_78 dX6_pace_20 ?_
  refine wp_iret (pc := 22) dX6_pace_22 rfl ?_
  rotate_left
  · rw [fPace, c8] at k; exact k h H RS.rf
  rotate_left
  · rw [fPace, c8, c17] at k; exact k h H RS.rf
  rw [fPace, c8, c17] at k
  obtain ⟨g, hg, rfl⟩ := inN_t (by omega) c8
  obtain ⟨m, -, hm, rfl⟩ := btw_t (by decide) c17
  rw [nI_clamp (show g < 2 ^ 31 by omega), nI_clamp (show m < 2 ^ 31 by omega)] at k
  refine wp_aload_n (pc := 23) (i := 0) dX6_pace_23 rfl rfl ?_
  refine wp_gfr (pc := 24) fk_X6_43 dX6_pace_24 rfl rfl (by decide) ?_
  refine wp_aload_n (pc := 27) (i := 0) dX6_pace_27 rfl rfl ?_
  refine wp_gfr (pc := 28) fk_X6_26 dX6_pace_28 rfl rfl (by decide) ?_
  refine wp_cV1v (pc := 31) lk_X6_161 dX6_pace_31 rfl rfl rfl (sp_keep hW hO H.2.1 (fun h1 hA1 hf1 => ?_))
  rotate_left
  have hW1 := keep_frame hf1 hW
  obtain ⟨r0, r1, r2, r3, r4, r5, r6, r7, r8, r9, r10, r11, r12, r13⟩ := id hW1
  have r5 : ∀ q, q < (gT σ) 0 → h1 28 q = nI ((gT σ) (5 + q)) := r5
  have r6 : ∀ q, q < (gT σ) 0 → h1 29 q = nI ((gT σ) (10 + q)) := r6
  have r7 : ∀ q, q < (gT σ) 0 → h1 30 q = nI ((gT σ) (15 + q)) := r7
  have r8 : ∀ q, q < (gT σ) 1 → h1 31 q = nI ((gT σ) (20 + q)) := r8
  have r9 : ∀ q, q < (gT σ) 1 → h1 32 q = nI ((gT σ) (26 + q)) := r9
  have r10 : ∀ q, q < (gT σ) 1 → h1 33 q = nI ((gT σ) (32 + q)) := r10
  have r11 : ∀ q, q < (gT σ) 1 → h1 34 q = nI ((gT σ) (38 + q)) := r11
  have r12 : ∀ q, q < (gT σ) 1 → h1 35 q = nI ((gT σ) (44 + q)) := r12
  have r13 : ∀ q, q < (gT σ) 1 → h1 36 q = nI ((gT σ) (50 + q)) := r13
  refine wp_aload_n (pc := 34) (i := 0) dX6_pace_34 rfl rfl ?_
  refine wp_gfr (pc := 35) fk_X6_26 dX6_pace_35 rfl rfl (by decide) ?_
  refine wp_gfr (pc := 38) fk_X6_180 dX6_pace_38 rfl rfl (by decide) ?_
  refine wp_iload_n (pc := 41) (i := 1) dX6_pace_41 rfl rfl ?_
  first | (with_reducible show WP _ _ _ _ _ _ (Value.int (nI _) :: _) _; refine wp_ialdN (pc := 42) dX6_pace_42 rfl (by omega) (by first | with_reducible assumption | with_reducible exact hs_same _ _ _ _ | with_reducible exact r11 _ (by omega) | rfl) ?_) | refine wp_iald (pc := 42) dX6_pace_42 rfl (by assumption) rfl ?_
  refine wp_istore_n (pc := 43) (i := 3) dX6_pace_43 rfl rfl (by decide) rfl ?_
  dsimp only [List.set_cons_zero, List.set_cons_succ]
  refine wp_aload_n (pc := 44) (i := 0) dX6_pace_44 rfl rfl ?_
  refine wp_gfr (pc := 45) fk_X6_26 dX6_pace_45 rfl rfl (by decide) ?_
  refine wp_gfr (pc := 48) fk_X6_180 dX6_pace_48 rfl rfl (by decide) ?_
  refine wp_iload_n (pc := 51) (i := 1) dX6_pace_51 rfl rfl ?_
  refine wp_iload_n (pc := 52) (i := 2) dX6_pace_52 rfl rfl ?_
  first | (with_reducible show WP _ _ _ _ _ _ (_ :: Value.int (nI _) :: _) _; refine wp_iastN (pc := 53) dX6_pace_53 rfl (by omega) ?_) | refine wp_iast (pc := 53) dX6_pace_53 rfl (by assumption) rfl ?_
  refine wp_iload_n (pc := 54) (i := 3) dX6_pace_54 rfl rfl ?_
  refine wp_iret (pc := 55) dX6_pace_55 rfl ?_
  rotate_left
  refine k _ (H.acts (hW1.ste hO hg) (hA1.cg (fun q _ _ => hs_ne (by omega))) (fun a ha => by rw [hs_ne (by omega)]; exact hf1 a (by omega))) (fun a ha => by rw [hs_ne (by omega)]; exact hf1 a (by omega))
theorem sd_spoil {x n : Int32} {K : Int32 → Hp → Prop} (H : DI h σ) (hO : OKT (gT σ)) (k : ∀ h', DI h' (fSpoil σ x n).2 → RS h h' → K (fSpoil σ x n).1 h') : Call G (d + 2) mX6_spoil [.ref 0, .int x, .int n] h (pI K) := by
  have hW := H.1
  obtain ⟨o0, o1, o2, o3, o4, o5, o6, o7, o8⟩ := id hO
  refine Call.of (M := mX6_spoil) (n := 0) (by decide +kernel) rfl ?_
  show WP _ _ _ _ 0 [some (.ref 0), some (.int x), some (.int n)] [] _
  refine wp_aload_n (pc := 0) (i := 0) dX6_spoil_0 rfl rfl ?_
  refine wp_gfr (pc := 1) fk_X6_26 dX6_spoil_1 rfl rfl (by decide) ?_
  refine wp_iload_n (pc := 4) (i := 1) dX6_spoil_4 rfl rfl ?_
  refine wp_cV1i (pc := 5) lk_X6_174 dX6_spoil_5 rfl rfl rfl (sp_hasChild isT_27 hW hO ?_)
  first | (with_reducible show WP _ _ _ _ _ _ (Value.int (bI _) :: _) _; refine wp_if_eqB (pc := 8) (tgt := 21) dX6_spoil_8 (by decide) (fun c8 => ?_) (fun c8 => ?_)) | (with_reducible show WP _ _ _ _ _ _ (Value.int (nI _) :: _) _; refine wp_if_eqN (pc := 8) (tgt := 21) dX6_spoil_8 (by decide) (by omega) (fun c8 => ?_) (fun c8 => ?_)) | refine wp_if_eq (pc := 8) (tgt := 21) dX6_spoil_8 (by decide) (fun c8 => ?_) (fun c8 => ?_)
  refine wp_ldc (pc := 21) kn_X6_78 dX6_spoil_21 ?_
  refine wp_iret (pc := 23) dX6_spoil_23 rfl ?_
  rotate_left
  refine wp_iload_n (pc := 11) (i := 2) dX6_spoil_11 rfl rfl ?_
  refine wp_iconst (pc := 12) (v := nI 1) dX6_spoil_12 rfl ?_
  refine wp_bipush (pc := 13) (v := nI 20) dX6_spoil_13 rfl ?_
  refine wp_cS3i (pc := 15) lk_X6_74 dX6_spoil_15 rfl (sp_btw (by decide) (by decide) ?_)
  first | (with_reducible show WP _ _ _ _ _ _ (Value.int (bI _) :: _) _; refine wp_if_neB (pc := 18) (tgt := 24) dX6_spoil_18 (by decide) (fun c18 => ?_) (fun c18 => ?_)) | (with_reducible show WP _ _ _ _ _ _ (Value.int (nI _) :: _) _; refine wp_if_neN (pc := 18) (tgt := 24) dX6_spoil_18 (by decide) (by omega) (fun c18 => ?_) (fun c18 => ?_)) | refine wp_if_ne (pc := 18) (tgt := 24) dX6_spoil_18 (by decide) (fun c18 => ?_) (fun c18 => ?_)
  rotate_left
  refine wp_ldc (pc := 21) kn_X6_78 dX6_spoil_21 ?_
  refine wp_iret (pc := 23) dX6_spoil_23 rfl ?_
  rotate_left
  · rw [fSpoil, c8] at k; exact k h H RS.rf
  rotate_left
  · rw [fSpoil, c8, c18] at k; exact k h H RS.rf
  rw [fSpoil, c8, c18] at k
  obtain ⟨g, hg, rfl⟩ := inN_t (by omega) c8
  obtain ⟨m, -, hm, rfl⟩ := btw_t (by decide) c18
  rw [nI_clamp (show g < 2 ^ 31 by omega), nI_clamp (show m < 2 ^ 31 by omega)] at k
  refine wp_aload_n (pc := 24) (i := 0) dX6_spoil_24 rfl rfl ?_
  refine wp_gfr (pc := 25) fk_X6_43 dX6_spoil_25 rfl rfl (by decide) ?_
  refine wp_aload_n (pc := 28) (i := 0) dX6_spoil_28 rfl rfl ?_
  refine wp_gfr (pc := 29) fk_X6_26 dX6_spoil_29 rfl rfl (by decide) ?_
  refine wp_cV1v (pc := 32) lk_X6_161 dX6_spoil_32 rfl rfl rfl (sp_keep hW hO H.2.1 (fun h1 hA1 hf1 => ?_))
  rotate_left
  have hW1 := keep_frame hf1 hW
  refine wp_aload_n (pc := 35) (i := 0) dX6_spoil_35 rfl rfl ?_
  refine wp_gfr (pc := 36) fk_X6_26 dX6_spoil_36 rfl rfl (by decide) ?_
  refine wp_iload_n (pc := 39) (i := 1) dX6_spoil_39 rfl rfl ?_
  refine wp_iload_n (pc := 40) (i := 2) dX6_spoil_40 rfl rfl ?_
  refine wp_cV2v (pc := 41) lk_X6_186 dX6_spoil_41 rfl rfl rfl (sp_addSpoiltP isT_27 hW1 hO hg (by omega) ?_)
  refine wp_aload_n (pc := 44) (i := 0) dX6_spoil_44 rfl rfl ?_
  refine wp_gfr (pc := 45) fk_X6_26 dX6_spoil_45 rfl rfl (by decide) ?_
  refine wp_gfr (pc := 48) fk_X6_190 dX6_spoil_48 rfl rfl (by decide) ?_
  refine wp_iload_n (pc := 51) (i := 1) dX6_spoil_51 rfl rfl ?_
  first | (with_reducible show WP _ _ _ _ _ _ (Value.int (nI _) :: _) _; refine wp_ialdN (pc := 52) dX6_spoil_52 rfl (by omega) (by first | with_reducible assumption | with_reducible exact hs_same _ _ _ _ | rfl) ?_) | refine wp_iald (pc := 52) dX6_spoil_52 rfl (by assumption) rfl ?_
  refine wp_iret (pc := 53) dX6_spoil_53 rfl ?_
  rotate_left
  refine k _ (H.acts (hW1.spo hO hg) (hA1.cg (fun q _ _ => hs_ne (by omega))) (fun a ha => by rw [hs_ne (by omega)]; exact hf1 a (by omega))) (fun a ha => by rw [hs_ne (by omega)]; exact hf1 a (by omega))
theorem qrl_lt {a o : Nat} (h : a < 64) (ho : o < 6) : a ^^^ 1 * 2 ^ o < 64 := by
  have : ∀ o, o < 6 → 1 * 2 ^ o < 2 ^ 6 := by decide
  exact Nat.xor_lt_two_pow (n := 6) h (this o ho)
theorem sd_quarrel {x y n : Int32} {K : Int32 → Hp → Prop} (H : DI h σ) (hO : OKT (gT σ)) (k : ∀ h', DI h' (fQuarrel σ x y n).2 → RS h h' → K (fQuarrel σ x y n).1 h') : Call G (d + 2) mX6_quarrel [.ref 0, .int x, .int y, .int n] h (pI K) := by
  have hW := H.1
  obtain ⟨o0, o1, o2, o3, o4, o5, o6, o7, o8⟩ := id hO
  obtain ⟨e0, e1, e2, e3, e4, e5, e6, e7, e8, e9, e10, e11, e12, e13⟩ := id hW
  have e5 : ∀ q, q < (gT σ) 0 → h 28 q = nI ((gT σ) (5 + q)) := e5
  have e6 : ∀ q, q < (gT σ) 0 → h 29 q = nI ((gT σ) (10 + q)) := e6
  have e7 : ∀ q, q < (gT σ) 0 → h 30 q = nI ((gT σ) (15 + q)) := e7
  have e8 : ∀ q, q < (gT σ) 1 → h 31 q = nI ((gT σ) (20 + q)) := e8
  have e9 : ∀ q, q < (gT σ) 1 → h 32 q = nI ((gT σ) (26 + q)) := e9
  have e10 : ∀ q, q < (gT σ) 1 → h 33 q = nI ((gT σ) (32 + q)) := e10
  have e11 : ∀ q, q < (gT σ) 1 → h 34 q = nI ((gT σ) (38 + q)) := e11
  have e12 : ∀ q, q < (gT σ) 1 → h 35 q = nI ((gT σ) (44 + q)) := e12
  have e13 : ∀ q, q < (gT σ) 1 → h 36 q = nI ((gT σ) (50 + q)) := e13
  refine Call.of (M := mX6_quarrel) (n := 0) (by decide +kernel) rfl ?_
  show WP _ _ _ _ 0 [some (.ref 0), some (.int x), some (.int y), some (.int n)] [] _
  refine wp_aload_n (pc := 0) (i := 0) dX6_quarrel_0 rfl rfl ?_
  refine wp_gfr (pc := 1) fk_X6_26 dX6_quarrel_1 rfl rfl (by decide) ?_
  refine wp_iload_n (pc := 4) (i := 1) dX6_quarrel_4 rfl rfl ?_
  refine wp_cV1i (pc := 5) lk_X6_168 dX6_quarrel_5 rfl rfl rfl (sp_hasGran isT_27 hW hO ?_)
  first | (with_reducible show WP _ _ _ _ _ _ (Value.int (bI _) :: _) _; refine wp_if_eqB (pc := 8) (tgt := 36) dX6_quarrel_8 (by decide) (fun c8 => ?_) (fun c8 => ?_)) | (with_reducible show WP _ _ _ _ _ _ (Value.int (nI _) :: _) _; refine wp_if_eqN (pc := 8) (tgt := 36) dX6_quarrel_8 (by decide) (by omega) (fun c8 => ?_) (fun c8 => ?_)) | refine wp_if_eq (pc := 8) (tgt := 36) dX6_quarrel_8 (by decide) (fun c8 => ?_) (fun c8 => ?_)
  refine wp_ldc (pc := 36) kn_X6_78 dX6_quarrel_36 ?_
  refine wp_iret (pc := 38) dX6_quarrel_38 rfl ?_
  rotate_left
  refine wp_aload_n (pc := 11) (i := 0) dX6_quarrel_11 rfl rfl ?_
  refine wp_gfr (pc := 12) fk_X6_26 dX6_quarrel_12 rfl rfl (by decide) ?_
  refine wp_iload_n (pc := 15) (i := 2) dX6_quarrel_15 rfl rfl ?_
  refine wp_cV1i (pc := 16) lk_X6_168 dX6_quarrel_16 rfl rfl rfl (sp_hasGran isT_27 hW hO ?_)
  first | (with_reducible show WP _ _ _ _ _ _ (Value.int (bI _) :: _) _; refine wp_if_eqB (pc := 19) (tgt := 36) dX6_quarrel_19 (by decide) (fun c19 => ?_) (fun c19 => ?_)) | (with_reducible show WP _ _ _ _ _ _ (Value.int (nI _) :: _) _; refine wp_if_eqN (pc := 19) (tgt := 36) dX6_quarrel_19 (by decide) (by omega) (fun c19 => ?_) (fun c19 => ?_)) | refine wp_if_eq (pc := 19) (tgt := 36) dX6_quarrel_19 (by decide) (fun c19 => ?_) (fun c19 => ?_)
  refine wp_ldc (pc := 36) kn_X6_78 dX6_quarrel_36 ?_
  refine wp_iret (pc := 38) dX6_quarrel_38 rfl ?_
  rotate_left
  rotate_left
  · rw [fQuarrel, c8] at k; exact k h H RS.rf
  · rw [fQuarrel, c8, c19] at k; exact k h H RS.rf
  refine wp_iload_n (pc := 22) (i := 1) dX6_quarrel_22 rfl rfl ?_
  refine wp_iload_n (pc := 23) (i := 2) dX6_quarrel_23 rfl rfl ?_
  refine wp_icmp_eq (pc := 24) (tgt := 36) dX6_quarrel_24 (by decide) (fun c24 => ?_) (fun c24 => ?_)
  · refine wp_ldc (pc := 36) kn_X6_78 dX6_quarrel_36 ?_
    refine wp_iret (pc := 38) dX6_quarrel_38 rfl ?_
    rotate_left
    rw [fQuarrel, c8, c19, decide_eq_false (fun q => q c24)] at k; exact k h H RS.rf
  refine wp_iload_n (pc := 27) (i := 3) dX6_quarrel_27 rfl rfl ?_
  refine wp_iconst (pc := 28) (v := nI 0) dX6_quarrel_28 rfl ?_
  refine wp_iconst (pc := 29) (v := nI 1) dX6_quarrel_29 rfl ?_
  refine wp_cS3i (pc := 30) lk_X6_74 dX6_quarrel_30 rfl (sp_btw (by decide) (by decide) ?_)
  first | (with_reducible show WP _ _ _ _ _ _ (Value.int (bI _) :: _) _; refine wp_if_neB (pc := 33) (tgt := 39) dX6_quarrel_33 (by decide) (fun c33 => ?_) (fun c33 => ?_)) | (with_reducible show WP _ _ _ _ _ _ (Value.int (nI _) :: _) _; refine wp_if_neN (pc := 33) (tgt := 39) dX6_quarrel_33 (by decide) (by omega) (fun c33 => ?_) (fun c33 => ?_)) | refine wp_if_ne (pc := 33) (tgt := 39) dX6_quarrel_33 (by decide) (fun c33 => ?_) (fun c33 => ?_)
  rotate_left
  refine wp_ldc (pc := 36) kn_X6_78 dX6_quarrel_36 ?_
  refine wp_iret (pc := 38) dX6_quarrel_38 rfl ?_
  rotate_left
  rotate_left
  · rw [fQuarrel, c8, c19, decide_eq_true c24, c33] at k; exact k h H RS.rf
  rw [fQuarrel, c8, c19, decide_eq_true c24, c33] at k
  obtain ⟨g, hg, rfl⟩ := inN_t (by omega) c8
  obtain ⟨o, ho, rfl⟩ := inN_t (by omega) c19
  obtain ⟨m, -, hm, rfl⟩ := btw_t (by decide) c33
  have hgo : g ≠ o := fun q => c24 (by rw [q])
  rw [nI_clamp (show g < 2 ^ 31 by omega), nI_clamp (show o < 2 ^ 31 by omega)] at k
  have bg := (o7 g hg).2.2.2.2.2
  have bo := (o7 o ho).2.2.2.2.2
  have b1 : gT σ (50 + g) / 2 ^ o &&& 1 ≤ 1 := Nat.and_le_right
  have eqm : decide (nI m = nI 1) = decide (m = 1) := decide_eq_decide.mpr (nI_eq (by omega) (by decide))
  rw [eqm] at k
  refine wp_aload_n (pc := 39) (i := 0) dX6_quarrel_39 rfl rfl ?_
  refine wp_gfr (pc := 40) fk_X6_26 dX6_quarrel_40 rfl rfl (by decide) ?_
  refine wp_gfr (pc := 43) fk_X6_183 dX6_quarrel_43 rfl rfl (by decide) ?_
  refine wp_iload_n (pc := 46) (i := 1) dX6_quarrel_46 rfl rfl ?_
  first | (with_reducible show WP _ _ _ _ _ _ (Value.int (nI _) :: _) _; refine wp_ialdN (pc := 47) dX6_quarrel_47 rfl (by omega) (by first | with_reducible assumption | with_reducible exact hs_same _ _ _ _ | with_reducible exact e13 _ (by omega) | rfl) ?_) | refine wp_iald (pc := 47) dX6_quarrel_47 rfl (by assumption) rfl ?_
  refine wp_iload_n (pc := 48) (i := 2) dX6_quarrel_48 rfl rfl ?_
  first | (with_reducible show WP _ _ _ _ _ _ (Value.int (nI _) :: Value.int (nI _) :: _) _; refine wp_ishrN (pc := 49) dX6_quarrel_49 (by omega) (by omega) ?_) | refine wp_ishr (pc := 49) dX6_quarrel_49 ?_
  refine wp_iconst (pc := 50) (v := nI 1) dX6_quarrel_50 rfl ?_
  first | (with_reducible show WP _ _ _ _ _ _ (Value.int (nI _) :: Value.int (nI _) :: _) _; refine wp_iandN (pc := 51) dX6_quarrel_51 ?_) | refine wp_iand (pc := 51) dX6_quarrel_51 ?_
  refine wp_iload_n (pc := 52) (i := 3) dX6_quarrel_52 rfl rfl ?_
  first | (with_reducible show WP _ _ _ _ _ _ (Value.int (nI _) :: Value.int (nI _) :: _) _; refine wp_icmp_neN (pc := 53) (tgt := 59) dX6_quarrel_53 (by decide) (by omega) (by omega) (fun c53 => ?_) (fun c53 => ?_)) | refine wp_icmp_ne (pc := 53) (tgt := 59) dX6_quarrel_53 (by decide) (fun c53 => ?_) (fun c53 => ?_)
  rotate_left
  refine wp_ldc (pc := 56) kn_X6_153 dX6_quarrel_56 ?_
  refine wp_iret (pc := 58) dX6_quarrel_58 rfl ?_
  rotate_left
  · -- they quarrel, or no more
    have hne : ¬ (gT σ (50 + g)).testBit o = decide (m = 1) := by
      intro q
      apply c53
      have := bit_iff (gT σ (50 + g)) o
      rcases (show m = 0 ∨ m = 1 by omega) with rfl | rfl
      · have q2 : ¬ (gT σ (50 + g)).testBit o = true := by rw [q]; simp
        have q3 : ¬ (gT σ (50 + g) / 2 ^ o &&& 1 = 1) := fun z => q2 (this.mp z)
        omega
      · rw [decide_eq_true rfl] at q; exact this.mpr q
    simp only [Bool.and_self, if_true, hne, if_false] at k
    refine wp_aload_n (pc := 59) (i := 0) dX6_quarrel_59 rfl rfl ?_
    refine wp_gfr (pc := 60) fk_X6_43 dX6_quarrel_60 rfl rfl (by decide) ?_
    refine wp_aload_n (pc := 63) (i := 0) dX6_quarrel_63 rfl rfl ?_
    refine wp_gfr (pc := 64) fk_X6_26 dX6_quarrel_64 rfl rfl (by decide) ?_
    refine wp_cV1v (pc := 67) lk_X6_161 dX6_quarrel_67 rfl rfl rfl (sp_keep hW hO H.2.1 (fun h1 hA1 hf1 => ?_))
    rotate_left
    have hW1 := keep_frame hf1 hW
    have s1 := qrl_lt bg (show o < 6 by omega)
    have s2 := qrl_lt bo (show g < 6 by omega)
    have hW2 := hW1.foe (v := gT σ (50 + g) ^^^ 1 * 2 ^ o) hO hg
    have hO2 := okt_foe hO hg s1
    have ho2 : o < up (gT σ) (50 + g) (gT σ (50 + g) ^^^ 1 * 2 ^ o) 1 := by rw [up_ne (by omega)]; exact ho
    have hW3 := hW2.foe (v := gT σ (50 + o) ^^^ 1 * 2 ^ g) hO2 ho2
    have r1 : h1 36 g = nI (gT σ (50 + g)) := hW1.2.2.2.2.2.2.2.2.2.2.2.2.2 g hg
    have r2 : hs h1 36 g (nI (gT σ (50 + g) ^^^ 1 * 2 ^ o)) 36 o = nI (gT σ (50 + o)) := by
      rw [hs_ix (fun z => hgo z.symm)]; exact hW1.2.2.2.2.2.2.2.2.2.2.2.2.2 o ho
    have r3 : hs (hs h1 36 g (nI (gT σ (50 + g) ^^^ 1 * 2 ^ o))) 36 o (nI (gT σ (50 + o) ^^^ 1 * 2 ^ g)) 36 g = nI (gT σ (50 + g) ^^^ 1 * 2 ^ o) := by
      rw [hs_ix hgo, hs_same]
    refine wp_aload_n (pc := 70) (i := 0) dX6_quarrel_70 rfl rfl ?_
    refine wp_gfr (pc := 71) fk_X6_26 dX6_quarrel_71 rfl rfl (by decide) ?_
    refine wp_gfr (pc := 74) fk_X6_183 dX6_quarrel_74 rfl rfl (by decide) ?_
    refine wp_iload_n (pc := 77) (i := 1) dX6_quarrel_77 rfl rfl ?_
    refine wp_dup2 (pc := 78) dX6_quarrel_78 rfl rfl ?_
    first | (with_reducible show WP _ _ _ _ _ _ (Value.int (nI _) :: _) _; refine wp_ialdN (pc := 79) dX6_quarrel_79 rfl (by omega) (by first | with_reducible assumption | with_reducible exact hs_same _ _ _ _ | rfl) ?_) | refine wp_iald (pc := 79) dX6_quarrel_79 rfl (by assumption) rfl ?_
    refine wp_iconst (pc := 80) (v := nI 1) dX6_quarrel_80 rfl ?_
    refine wp_iload_n (pc := 81) (i := 2) dX6_quarrel_81 rfl rfl ?_
    first | (with_reducible show WP _ _ _ _ _ _ (Value.int (nI _) :: Value.int (nI _) :: _) _; refine wp_ishlN (pc := 82) dX6_quarrel_82 (by omega) ?_) | refine wp_ishl (pc := 82) dX6_quarrel_82 ?_
    first | (with_reducible show WP _ _ _ _ _ _ (Value.int (nI _) :: Value.int (nI _) :: _) _; refine wp_ixorN (pc := 83) dX6_quarrel_83 ?_) | refine wp_ixor (pc := 83) dX6_quarrel_83 ?_
    first | (with_reducible show WP _ _ _ _ _ _ (_ :: Value.int (nI _) :: _) _; refine wp_iastN (pc := 84) dX6_quarrel_84 rfl (by omega) ?_) | refine wp_iast (pc := 84) dX6_quarrel_84 rfl (by assumption) rfl ?_
    refine wp_aload_n (pc := 85) (i := 0) dX6_quarrel_85 rfl rfl ?_
    refine wp_gfr (pc := 86) fk_X6_26 dX6_quarrel_86 rfl rfl (by decide) ?_
    refine wp_gfr (pc := 89) fk_X6_183 dX6_quarrel_89 rfl rfl (by decide) ?_
    refine wp_iload_n (pc := 92) (i := 2) dX6_quarrel_92 rfl rfl ?_
    refine wp_dup2 (pc := 93) dX6_quarrel_93 rfl rfl ?_
    first | (with_reducible show WP _ _ _ _ _ _ (Value.int (nI _) :: _) _; refine wp_ialdN (pc := 94) dX6_quarrel_94 rfl (by omega) (by first | with_reducible assumption | with_reducible exact hs_same _ _ _ _ | rfl) ?_) | refine wp_iald (pc := 94) dX6_quarrel_94 rfl (by assumption) rfl ?_
    refine wp_iconst (pc := 95) (v := nI 1) dX6_quarrel_95 rfl ?_
    refine wp_iload_n (pc := 96) (i := 1) dX6_quarrel_96 rfl rfl ?_
    first | (with_reducible show WP _ _ _ _ _ _ (Value.int (nI _) :: Value.int (nI _) :: _) _; refine wp_ishlN (pc := 97) dX6_quarrel_97 (by omega) ?_) | refine wp_ishl (pc := 97) dX6_quarrel_97 ?_
    first | (with_reducible show WP _ _ _ _ _ _ (Value.int (nI _) :: Value.int (nI _) :: _) _; refine wp_ixorN (pc := 98) dX6_quarrel_98 ?_) | refine wp_ixor (pc := 98) dX6_quarrel_98 ?_
    first | (with_reducible show WP _ _ _ _ _ _ (_ :: Value.int (nI _) :: _) _; refine wp_iastN (pc := 99) dX6_quarrel_99 rfl (by omega) ?_) | refine wp_iast (pc := 99) dX6_quarrel_99 rfl (by assumption) rfl ?_
    refine wp_aload_n (pc := 100) (i := 0) dX6_quarrel_100 rfl rfl ?_
    refine wp_gfr (pc := 101) fk_X6_26 dX6_quarrel_101 rfl rfl (by decide) ?_
    refine wp_gfr (pc := 104) fk_X6_183 dX6_quarrel_104 rfl rfl (by decide) ?_
    refine wp_iload_n (pc := 107) (i := 1) dX6_quarrel_107 rfl rfl ?_
    first | (with_reducible show WP _ _ _ _ _ _ (Value.int (nI _) :: _) _; refine wp_ialdN (pc := 108) dX6_quarrel_108 rfl (by omega) (by first | with_reducible assumption | with_reducible exact hs_same _ _ _ _ | rfl) ?_) | refine wp_iald (pc := 108) dX6_quarrel_108 rfl (by assumption) rfl ?_
    refine wp_iret (pc := 109) dX6_quarrel_109 rfl ?_
    rotate_left
    refine k _ (H.acts hW3 (hA1.cg (fun q _ _ => by rw [hs_ne (by omega), hs_ne (by omega)])) (fun a ha => by rw [hs_ne (by omega), hs_ne (by omega)]; exact hf1 a (by omega))) (fun a ha => by rw [hs_ne (by omega), hs_ne (by omega)]; exact hf1 a (by omega))
  · have heq : (gT σ (50 + g)).testBit o = decide (m = 1) := by
      have := bit_iff (gT σ (50 + g)) o
      rcases (show m = 0 ∨ m = 1 by omega) with rfl | rfl
      · cases q : (gT σ (50 + g)).testBit o with
        | false => rfl
        | true => have := this.mpr q; omega
      · exact this.mp c53
    simp only [Bool.and_self, if_true, heq] at k
    exact k h H RS.rf
end DACTS
