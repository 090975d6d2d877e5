/-! what is told of a child, and which gran would fit it -/
def fso (V : Tn) (c : Nat) (f : Nat → Int32) : Nat → Bool
  | 0 => true
  | n + 1 => fso V c f n && decide (nI (itP V (n + 1) (5 + c)) = f n)
theorem fso_f {V : Tn} {c : Nat} {f : Nat → Int32} {j : Nat} (h : ¬ nI (itP V (j + 1) (5 + c)) = f j) : ∀ n, j < n → fso V c f n = false
  | n + 1, hn => by
    show (fso V c f n && decide _) = false
    by_cases z : j = n
    · rw [← z, decide_eq_false h, Bool.and_false]
    · rw [fso_f h n (by omega), Bool.false_and]
def orU (f : Nat → Bool) (lo : Nat) : Nat → Nat
  | 0 => 0
  | m + 1 => orU f lo m ||| (if f (lo + m) then 1 * 2 ^ (lo + m) else 0)
theorem orU_lt (f : Nat → Bool) (lo : Nat) : ∀ m, orU f lo m < 2 ^ (lo + m)
  | 0 => Nat.two_pow_pos _
  | m + 1 => by
    have := orU_lt f lo m
    show _ ||| _ < 2 ^ (lo + m + 1)
    refine Nat.or_lt_two_pow (Nat.lt_of_lt_of_le this (Nat.pow_le_pow_right (by decide) (by omega))) ?_
    split
    · rw [Nat.one_mul]; exact Nat.pow_lt_pow_right (by decide) (by omega)
    · exact Nat.two_pow_pos _
def fTold (σ : Sg) (x g r i n : Int32) : Option (Int32 × Sg) := if inN x (gT σ 0) && inN g (gT σ 1) && inN r 8 && btw n 1 12 then (if fin1 (gR σ r.toNatClampNeg) i n = 0 then none else some (kFOUND - nI (fin1 (gR σ r.toNatClampNeg) i n), upS σ (fin1 (gR σ r.toNatClampNeg) i n))) else some (kBAD, σ)
/-- the items told: from i on -/
def itm (σ : Sg) (r i : Nat) (j : Nat) : Int32 := match gR σ r with
  | none => nI 0
  | some y => y.2.2 (i + j)
def toldA (σ : Sg) (x g r i n : Int32) (p lo m : Nat) : Int32 × Sg := match fTold σ x g r i n with
  | some a => a
  | none => (nI (orU (fun v => fso (up (gT σ) (p + g.toNatClampNeg) v) x.toNatClampNeg (itm σ r.toNatClampNeg i.toNatClampNeg) n.toNatClampNeg) lo m), upS σ 0)
def fWho (σ : Sg) (x g r i n : Int32) : Int32 × Sg := toldA σ x g r i n 20 1 5
def fFirsts (σ : Sg) (x g r i n : Int32) : Int32 × Sg := toldA σ x g r i n 32 0 (gT σ 0)
def fSteps (σ : Sg) (x g r i n : Int32) : Int32 × Sg := toldA σ x g r i n 38 0 5
theorem told_none {σ : Sg} {x g r i n : Int32} (h1 : gT σ 1 ≤ 6) (h0 : gT σ 0 ≤ 5) (h : fTold σ x g r i n = none) : ∃ x' g' r' i' n' : Nat, ∃ y, x = nI x' ∧ g = nI g' ∧ r = nI r' ∧ i = nI i' ∧ n = nI n' ∧ x' < gT σ 0 ∧ g' < gT σ 1 ∧ r' < 8 ∧ 1 ≤ n' ∧ n' ≤ 12 ∧ gR σ r' = some y ∧ i' + n' ≤ y.2.1 := by
  unfold fTold at h
  split at h
  · rename_i q
    rw [Bool.and_eq_true, Bool.and_eq_true, Bool.and_eq_true] at q
    obtain ⟨⟨⟨q1, q2⟩, q3⟩, q4⟩ := q
    obtain ⟨x', hx, rfl⟩ := inN_t (by omega) q1
    obtain ⟨g', hg, rfl⟩ := inN_t (by omega) q2
    obtain ⟨r', hr, rfl⟩ := inN_t (by omega) q3
    rw [nI_clamp (show r' < 2 ^ 31 by omega)] at h
    split at h
    · rename_i z
      cases hy : gR σ r' with
      | none => rw [hy] at z; cases z
      | some y =>
        rw [hy] at z
        have z : (if spn y.2.1 i n then 0 else 2) = 0 := z
        split at z
        · rename_i sp
          obtain ⟨i', n', e1, e2, e3, rfl, rfl⟩ := spn_t sp
          have q4 := of_decide_eq_true q4
          rw [nI_toInt e3] at q4
          exact ⟨x', g', r', i', n', y, rfl, rfl, rfl, rfl, rfl, hx, hg, hr, by omega, by omega, hy, e1⟩
        · cases z
    · cases h
  · cases h
section DTOLD
variable {G : Gt} {d : Nat} {h : Hp} {σ : Sg} {T : Tn}
theorem bad_ne : ¬ kBAD = nI 0 := by decide +kernel
theorem fnd_ne {q : Nat} (hq : q ≤ 2) : ¬ kFOUND - nI q = nI 0 := by
  have : ∀ q, q ≤ 2 → ¬ kFOUND - nI q = nI 0 := by decide +kernel
  exact this q hq
theorem sp_refusal {x g r i n : Int32} {K : Int32 → Hp → Prop} (H : DI h σ) (hO : OKS σ) (k1 : ∀ v s, fTold σ x g r i n = some (v, s) → ¬ v = nI 0 → ∀ h', DI h' s → RS h h' → K v h') (k0 : fTold σ x g r i n = none → K (nI 0) (hs h 0 12 (nI 0))) : Call G (d + 2) mX6_refusalOfTold [.ref 0, .int x, .int g, .int r, .int i, .int n] h (pI K) := by
  have hW := H.1
  have hOT := hO.1.1
  obtain ⟨o0, o1, o2, o3, o4, o5, o6, o7, o8⟩ := id hOT
  have bad := bad_ne
  refine Call.of (M := mX6_refusalOfTold) (n := 1) (by decide +kernel) rfl ?_
  show WP _ _ _ _ 0 [some (.ref 0), some (.int x), some (.int g), some (.int r), some (.int i), some (.int n), none] [] _
  refine wp_aload_n (pc := 0) (i := 0) dX6_refusalOfTold_0 rfl rfl ?_
  refine wp_gfr (pc := 1) fk_X6_26 dX6_refusalOfTold_1 rfl rfl (by decide) ?_
  refine wp_iload_n (pc := 4) (i := 1) dX6_refusalOfTold_4 rfl rfl ?_
  refine wp_cV1i (pc := 5) lk_X6_174 dX6_refusalOfTold_5 rfl rfl rfl (sp_hasChild isT_27 hW hOT ?_)
  first | (with_reducible show WP _ _ _ _ _ _ (Value.int (bI _) :: _) _; refine wp_if_eqB (pc := 8) (tgt := 40) dX6_refusalOfTold_8 (by decide) (fun c8 => ?_) (fun c8 => ?_)) | (with_reducible show WP _ _ _ _ _ _ (Value.int (nI _) :: _) _; refine wp_if_eqN (pc := 8) (tgt := 40) dX6_refusalOfTold_8 (by decide) (by omega) (fun c8 => ?_) (fun c8 => ?_)) | refine wp_if_eq (pc := 8) (tgt := 40) dX6_refusalOfTold_8 (by decide) (fun c8 => ?_) (fun c8 => ?_)
  refine wp_ldc (pc := 40) kn_X6_78 dX6_refusalOfTold_40 ?_
  refine wp_iret (pc := 42) dX6_refusalOfTold_42 rfl ?_
  rotate_left
  refine wp_aload_n (pc := 11) (i := 0) dX6_refusalOfTold_11 rfl rfl ?_
  refine wp_gfr (pc := 12) fk_X6_26 dX6_refusalOfTold_12 rfl rfl (by decide) ?_
  refine wp_iload_n (pc := 15) (i := 2) dX6_refusalOfTold_15 rfl rfl ?_
  refine wp_cV1i (pc := 16) lk_X6_168 dX6_refusalOfTold_16 rfl rfl rfl (sp_hasGran isT_27 hW hOT ?_)
  first | (with_reducible show WP _ _ _ _ _ _ (Value.int (bI _) :: _) _; refine wp_if_eqB (pc := 19) (tgt := 40) dX6_refusalOfTold_19 (by decide) (fun c19 => ?_) (fun c19 => ?_)) | (with_reducible show WP _ _ _ _ _ _ (Value.int (nI _) :: _) _; refine wp_if_eqN (pc := 19) (tgt := 40) dX6_refusalOfTold_19 (by decide) (by omega) (fun c19 => ?_) (fun c19 => ?_)) | refine wp_if_eq (pc := 19) (tgt := 40) dX6_refusalOfTold_19 (by decide) (fun c19 => ?_) (fun c19 => ?_)
  refine wp_ldc (pc := 40) kn_X6_78 dX6_refusalOfTold_40 ?_
  refine wp_iret (pc := 42) dX6_refusalOfTold_42 rfl ?_
  rotate_left
  refine wp_iload_n (pc := 22) (i := 3) dX6_refusalOfTold_22 rfl rfl ?_
  refine wp_cS1i (pc := 23) lk_X6_70 dX6_refusalOfTold_23 rfl (sp_holds ?_)
  first | (with_reducible show WP _ _ _ _ _ _ (Value.int (bI _) :: _) _; refine wp_if_eqB (pc := 26) (tgt := 40) dX6_refusalOfTold_26 (by decide) (fun c26 => ?_) (fun c26 => ?_)) | (with_reducible show WP _ _ _ _ _ _ (Value.int (nI _) :: _) _; refine wp_if_eqN (pc := 26) (tgt := 40) dX6_refusalOfTold_26 (by decide) (by omega) (fun c26 => ?_) (fun c26 => ?_)) | refine wp_if_eq (pc := 26) (tgt := 40) dX6_refusalOfTold_26 (by decide) (fun c26 => ?_) (fun c26 => ?_)
  refine wp_ldc (pc := 40) kn_X6_78 dX6_refusalOfTold_40 ?_
  refine wp_iret (pc := 42) dX6_refusalOfTold_42 rfl ?_
  rotate_left
  refine wp_iload (pc := 29) (i := 5) dX6_refusalOfTold_29 rfl ?_
  refine wp_iconst (pc := 31) (v := nI 1) dX6_refusalOfTold_31 rfl ?_
  refine wp_bipush (pc := 32) (v := nI 12) dX6_refusalOfTold_32 rfl ?_
  refine wp_cS3i (pc := 34) lk_X6_74 dX6_refusalOfTold_34 rfl (sp_btw (by decide) (by decide) ?_)
  first | (with_reducible show WP _ _ _ _ _ _ (Value.int (bI _) :: _) _; refine wp_if_neB (pc := 37) (tgt := 43) dX6_refusalOfTold_37 (by decide) (fun c37 => ?_) (fun c37 => ?_)) | (with_reducible show WP _ _ _ _ _ _ (Value.int (nI _) :: _) _; refine wp_if_neN (pc := 37) (tgt := 43) dX6_refusalOfTold_37 (by decide) (by omega) (fun c37 => ?_) (fun c37 => ?_)) | refine wp_if_ne (pc := 37) (tgt := 43) dX6_refusalOfTold_37 (by decide) (fun c37 => ?_) (fun c37 => ?_)
  rotate_left
  refine wp_ldc (pc := 40) kn_X6_78 dX6_refusalOfTold_40 ?_
  refine wp_iret (pc := 42) dX6_refusalOfTold_42 rfl ?_
  rotate_left
  · exact k1 kBAD σ (by rw [fTold, c8]; exact if_neg (by simp)) bad h H RS.rf
  · exact k1 kBAD σ (by rw [fTold, c8, c19]; exact if_neg (by simp)) bad h H RS.rf
  · exact k1 kBAD σ (by rw [fTold, c8, c19, c26]; exact if_neg (by simp)) bad h H RS.rf
  rotate_left
  · exact k1 kBAD σ (by rw [fTold, c8, c19, c26, c37]; exact if_neg (by simp)) bad h H RS.rf
  obtain ⟨r, hr, rfl⟩ := inN_t (by decide) c26
  have ef : fTold σ x g (nI r) i n = if fin1 (gR σ r) i n = 0 then none else some (kFOUND - nI (fin1 (gR σ r) i n), upS σ (fin1 (gR σ r) i n)) := by
    rw [fTold, c8, c19, c26, c37, nI_clamp (by omega)]; exact if_pos rfl
  have f2 : fin1 (gR σ r) i n ≤ 2 := by
    cases gR σ r with
    | none => exact (by decide : 1 ≤ 2)
    | some y => show (if spn y.2.1 i n then 0 else 2) ≤ 2; split <;> omega
  refine wp_aload_n (pc := 43) (i := 0) dX6_refusalOfTold_43 rfl rfl ?_
  refine wp_gfr (pc := 44) fk_X6_10 dX6_refusalOfTold_44 rfl rfl (by decide) ?_
  refine wp_iload_n (pc := 47) (i := 3) dX6_refusalOfTold_47 rfl rfl ?_
  refine wp_iload (pc := 48) (i := 4) dX6_refusalOfTold_48 rfl ?_
  refine wp_iload (pc := 50) (i := 5) dX6_refusalOfTold_50 rfl ?_
  refine wp_cV3i (pc := 52) lk_X6_91 dX6_refusalOfTold_52 rfl rfl rfl (sp_findingOf hr (H.2.2.2.1 r hr) (fun y hy => (hO.2.2.2.1 r y hy).2) ?_)
  refine wp_istore (pc := 55) (i := 6) dX6_refusalOfTold_55 rfl (by decide) rfl ?_
  dsimp only [List.set_cons_zero, List.set_cons_succ]
  refine wp_iload (pc := 57) (i := 6) dX6_refusalOfTold_57 rfl ?_
  first | (with_reducible show WP _ _ _ _ _ _ (Value.int (bI _) :: _) _; refine wp_if_eqB (pc := 59) (tgt := 69) dX6_refusalOfTold_59 (by decide) (fun c59 => ?_) (fun c59 => ?_)) | (with_reducible show WP _ _ _ _ _ _ (Value.int (nI _) :: _) _; refine wp_if_eqN (pc := 59) (tgt := 69) dX6_refusalOfTold_59 (by decide) (by omega) (fun c59 => ?_) (fun c59 => ?_)) | refine wp_if_eq (pc := 59) (tgt := 69) dX6_refusalOfTold_59 (by decide) (fun c59 => ?_) (fun c59 => ?_)
  refine wp_aload_n (pc := 69) (i := 0) dX6_refusalOfTold_69 rfl rfl ?_
  refine wp_iconst (pc := 70) (v := nI 0) dX6_refusalOfTold_70 rfl ?_
  refine wp_pf (pc := 71) fp_X6_87 dX6_refusalOfTold_71 rfl rfl rfl rfl ?_
  refine wp_iconst (pc := 74) (v := nI 0) dX6_refusalOfTold_74 rfl ?_
  refine wp_iret (pc := 75) dX6_refusalOfTold_75 rfl ?_
  rotate_left
  refine wp_aload_n (pc := 62) (i := 0) dX6_refusalOfTold_62 rfl rfl ?_
  refine wp_iload (pc := 63) (i := 6) dX6_refusalOfTold_63 rfl ?_
  refine wp_cV1i (pc := 65) lk_X6_79 dX6_refusalOfTold_65 rfl rfl rfl (sp_found ?_)
  refine wp_iret (pc := 68) dX6_refusalOfTold_68 rfl ?_
  rotate_left
  · exact k0 (by rw [ef, if_pos c59])
  · have h9 := k1 (kFOUND - nI (fin1 (gR σ r) i n)) (upS σ (fin1 (gR σ r) i n)) (by rw [ef, if_neg c59]) (fnd_ne f2) _ H.st (fun a ha => hs_ne (by omega))
    exact h9
theorem sp_isFedAsTold {V : Tn} {c r i n : Nat} {f : Nat → Int32} {K : Int32 → Hp → Prop} (hW : TW h 39 V) (hO : OKT V) (h0 : 0 < V 1) (hc : c < V 0) (hr : r < 8) (hn : n ≤ 12) (hi : i + n ≤ 40) (hd : V 4 ≤ 999) (hf : ∀ j, j < n → h (3 + r) (i + j) = f j) (k : ∀ h', (∀ a, a < 39 ∨ 51 < a → h' a = h a) → K (bI (fso V c f n)) h') : Call G (d + 4) mX6_isFedAsTold [.ref 0, .int (nI c), .int (nI r), .int (nI i), .int (nI n)] h (pI K) := by
  have v0 := hO.1
  refine Call.of (M := mX6_isFedAsTold) (n := 1) (by decide +kernel) rfl ?_
  show WP _ _ _ _ 0 [some (.ref 0), some (.int (nI c)), some (.int (nI r)), some (.int (nI i)), some (.int (nI n)), none] [] _
  have loop : ∀ m j h1, j + m = n → TW h1 39 (itP V j) → (∀ a, a < 39 ∨ 51 < a → h1 a = h a) → fso V c f j = true → WP G (d + 4) mX6_isFedAsTold (pI K) 3 [some (.ref 0), some (.int (nI c)), some (.int (nI r)), some (.int (nI i)), some (.int (nI n)), some (.int (nI j))] [] h1 := by
    intro m
    induction m with
    | zero =>
      intro j h1 hjm hW1 hf1 ht
      have kk := k h1 hf1
      refine wp_iload (pc := 3) (i := 5) dX6_isFedAsTold_3 rfl ?_
      refine wp_iload (pc := 5) (i := 4) dX6_isFedAsTold_5 rfl ?_
      first | (with_reducible show WP _ _ _ _ _ _ (Value.int (nI _) :: Value.int (nI _) :: _) _; refine wp_icmp_geN (pc := 7) (tgt := 49) dX6_isFedAsTold_7 (by decide) (by omega) (by omega) (fun c7 => ?_) (fun c7 => ?_)) | refine wp_icmp_ge (pc := 7) (tgt := 49) dX6_isFedAsTold_7 (by decide) (fun c7 => ?_) (fun c7 => ?_)
      refine wp_iconst (pc := 49) (v := nI 1) dX6_isFedAsTold_49 rfl ?_
      refine wp_zret (pc := 50) dX6_isFedAsTold_50 rfl (by first | exact Or.inl rfl | exact Or.inr rfl | assumption | exact bI_01 _) ?_
      rotate_left
      rotate_left
      · rw [show n = j by omega, ht] at kk; exact kk
      · exact absurd hjm (by omega)
    | succ m ih =>
      intro j h1 hjm hW1 hf1 ht
      obtain ⟨p1, p2, p3⟩ := itP_keep hO h0 j (by omega)
      obtain ⟨p1', p2', p3'⟩ := itP_keep hO h0 (j + 1) (by omega)
      refine wp_iload (pc := 3) (i := 5) dX6_isFedAsTold_3 rfl ?_
      refine wp_iload (pc := 5) (i := 4) dX6_isFedAsTold_5 rfl ?_
      first | (with_reducible show WP _ _ _ _ _ _ (Value.int (nI _) :: Value.int (nI _) :: _) _; refine wp_icmp_geN (pc := 7) (tgt := 49) dX6_isFedAsTold_7 (by decide) (by omega) (by omega) (fun c7 => ?_) (fun c7 => ?_)) | refine wp_icmp_ge (pc := 7) (tgt := 49) dX6_isFedAsTold_7 (by decide) (fun c7 => ?_) (fun c7 => ?_)
      rotate_left
      refine wp_aload_n (pc := 10) (i := 0) dX6_isFedAsTold_10 rfl rfl ?_
      refine wp_gfr (pc := 11) fk_X6_30 dX6_isFedAsTold_11 rfl rfl (by decide) ?_
      refine wp_cV0v (pc := 14) lk_X6_165 dX6_isFedAsTold_14 rfl rfl rfl (sp_passDay isT_39 hW1 p1 (by rw [p3 1 (by omega)]; exact h0) (by omega) (fun h2 hW2 hF2 => ?_))
      rotate_left
      · exact absurd hjm (by omega)
      have hf2 : ∀ a, a < 39 ∨ 51 < a → h2 a = h a := fun a ha => by rw [hF2 a (by omega)]; exact hf1 a ha
      have hW2 : TW h2 39 (itP V (j + 1)) := hW2
      have e1 : h2 40 c = nI (itP V (j + 1) (5 + c)) := hW2.2.2.2.2.2.1 c (by rw [p3' 0 (by omega)]; exact hc)
      have e2 : h2 (3 + r) (i + j) = f j := by rw [hf2 (3 + r) (by omega)]; exact hf j (by omega)
      refine wp_aload_n (pc := 17) (i := 0) dX6_isFedAsTold_17 rfl rfl ?_
      refine wp_gfr (pc := 18) fk_X6_30 dX6_isFedAsTold_18 rfl rfl (by decide) ?_
      refine wp_gfr (pc := 21) fk_X6_203 dX6_isFedAsTold_21 rfl rfl (by decide) ?_
      refine wp_iload_n (pc := 24) (i := 1) dX6_isFedAsTold_24 rfl rfl ?_
      first | (with_reducible show WP _ _ _ _ _ _ (Value.int (nI _) :: _) _; refine wp_ialdN (pc := 25) dX6_isFedAsTold_25 rfl (by omega) (by first | with_reducible assumption | with_reducible exact hs_same _ _ _ _ | rfl) ?_) | refine wp_iald (pc := 25) dX6_isFedAsTold_25 rfl (by assumption) rfl ?_
      refine wp_aload_n (pc := 26) (i := 0) dX6_isFedAsTold_26 rfl rfl ?_
      refine wp_gfr (pc := 27) fk_X6_10 dX6_isFedAsTold_27 rfl rfl (by decide) ?_
      refine wp_iload_n (pc := 30) (i := 2) dX6_isFedAsTold_30 rfl rfl ?_
      refine wp_iload_n (pc := 31) (i := 3) dX6_isFedAsTold_31 rfl rfl ?_
      refine wp_iload (pc := 32) (i := 5) dX6_isFedAsTold_32 rfl ?_
      first | (with_reducible show WP _ _ _ _ _ _ (Value.int (nI _) :: Value.int (nI _) :: _) _; refine wp_iaddN (pc := 34) dX6_isFedAsTold_34 ?_) | refine wp_iadd (pc := 34) dX6_isFedAsTold_34 ?_
      refine wp_cV2i (pc := 35) lk_X6_321 dX6_isFedAsTold_35 rfl rfl rfl (sp_itemAt hr (by omega) ?_)
      rotate_left
      rw [e2]
      refine wp_icmp_eq (pc := 38) (tgt := 43) dX6_isFedAsTold_38 (by decide) (fun c38 => ?_) (fun c38 => ?_)
      · first | refine wp_iincN (pc := 43) (i := 5) (n := 1) dX6_isFedAsTold_43 rfl rfl (by decide) rfl ?_ | refine wp_iinc (pc := 43) (i := 5) dX6_isFedAsTold_43 rfl rfl rfl (by decide) rfl ?_
        dsimp only [List.set_cons_zero, List.set_cons_succ]
        refine wp_goto (pc := 46) (tgt := 3) dX6_isFedAsTold_46 (by decide) ?_
        rotate_left
        exact ih (j + 1) h2 (by omega) hW2 hf2 (by show (fso V c f j && decide _) = true; rw [ht, decide_eq_true c38]; rfl)
      · have kk := k h2 hf2
        rw [fso_f c38 n (by omega)] at kk
        refine wp_iconst (pc := 41) (v := nI 0) dX6_isFedAsTold_41 rfl ?_
        refine wp_zret (pc := 42) dX6_isFedAsTold_42 rfl (by first | exact Or.inl rfl | exact Or.inr rfl | assumption | exact bI_01 _) ?_
        rotate_left
        exact kk
  refine wp_iconst (pc := 0) (v := nI 0) dX6_isFedAsTold_0 rfl ?_
  refine wp_istore (pc := 1) (i := 5) dX6_isFedAsTold_1 rfl (by decide) rfl ?_
  dsimp only [List.set_cons_zero, List.set_cons_succ]
  rotate_left
  exact loop n 0 h (by omega) hW (fun _ _ => rfl) rfl
end DTOLD
