/-! the calls over rows, of the class -/
def btw (x : Int32) (a b : Nat) : Bool := decide ((a : Int) ≤ x.toInt ∧ x.toInt ≤ (b : Int))
theorem btw_t {x : Int32} {a b : Nat} (hb : b < 2 ^ 31) (h : btw x a b = true) : ∃ j : Nat, a ≤ j ∧ j ≤ b ∧ x = nI j := by
  have q := of_decide_eq_true h
  obtain ⟨j, hj, rfl⟩ := nI_of (x := x) ((le0_iff x).mpr (by omega))
  rw [nI_toInt hj] at q
  exact ⟨j, by omega, by omega, rfl⟩
theorem btw_nI {j a b : Nat} (h : j < 2 ^ 31) : btw (nI j) a b = decide (a ≤ j ∧ j ≤ b) := by
  unfold btw; rw [nI_toInt h]; apply decide_eq_decide.mpr; omega
def upS (σ : Sg) (s : Nat) : Sg := (gT σ, gP σ, gIm σ, gR σ, gB σ, gF σ, s, gK σ)
def upR (σ : Sg) (r : Nat) (x : Option Rw) : Sg := (gT σ, gP σ, gIm σ, fun q => if q = r then x else gR σ q, gB σ, gF σ, gS σ, gK σ)
/-- the other object's cells stay -/
def RS (h h' : Hp) : Prop := ∀ a, (88 < a ∧ a < 100) ∨ a = 15 → h' a = h a
def fRow (σ : Sg) (x y z : Int32) : Int32 × Sg :=
  if inN x 8 && btw y 0 2 && decide (z.toInt ≤ 40) then
    (if z.toInt < 0 then (kFOUND - nI 4, upS σ 4) else (z, upS (upR σ x.toNatClampNeg (some (y.toNatClampNeg, z.toNatClampNeg, fun _ => nI 0))) 0))
  else (kBAD, σ)
def fSet (σ : Sg) (x i v : Int32) : Int32 × Sg :=
  if inN x 8 then (match gR σ x.toNatClampNeg with
    | none => (kFOUND - nI 1, upS σ 1)
    | some y => if spn y.2.1 i 1 then (nar y.1 v, upS (upR σ x.toNatClampNeg (some (y.1, y.2.1, upd y.2.2 i.toNatClampNeg (nar y.1 v)))) 0) else (kFOUND - nI 2, upS σ 2))
  else (kBAD, σ)
def fDrop (σ : Sg) (x : Int32) : Int32 × Sg :=
  if inN x 8 then (match gR σ x.toNatClampNeg with
    | none => (kFOUND - nI 1, upS σ 1)
    | some y => (nI y.2.1, upS (upR σ x.toNatClampNeg none) 0))
  else (kBAD, σ)
def fCopy (σ : Sg) (x i y j n : Int32) : Int32 × Sg :=
  if inN x 8 && inN y 8 then (match gR σ x.toNatClampNeg, gR σ y.toNatClampNeg with
    | some a, some b => if ¬ a.1 = b.1 then (kFOUND - nI 5, upS σ 5) else if spn a.2.1 i n && spn b.2.1 j n then
        (n, upS (upR σ y.toNatClampNeg (some (b.1, b.2.1, va_cpy a.2.2 b.2.2 i.toNatClampNeg j.toNatClampNeg n.toNatClampNeg))) 0) else (kFOUND - nI 2, upS σ 2)
    | _, _ => (kFOUND - nI 1, upS σ 1))
  else (kBAD, σ)
section DROWS
variable {G : Gt} {d : Nat} {h : Hp} {σ : Sg}
theorem sp_btw {x : Int32} {a b : Nat} {K : Int32 → Hp → Prop} (ha : a < 2 ^ 31) (hb : b < 2 ^ 31) (k : K (bI (btw x a b)) h) : Call G d mX6_within [.int x, .int (nI a), .int (nI b)] h (pI K) := sp_within (by rw [nI_toInt ha, nI_toInt hb]; exact k)
theorem DI.st {s : Nat} (H : DI h σ) : DI (hs h 0 12 (nI s)) (upS σ s) := by
  obtain ⟨a, b, c, e, f, g1, g2, k⟩ := H
  have n : ∀ q, q ≠ 0 → hs h 0 12 (nI s) q = h q := fun q hq => hs_ne hq
  exact ⟨a.cg2 (fun q _ _ => n q (by omega)), b.cg (fun q _ _ => n q (by omega)), c.cg (fun q _ _ => n q (by omega)), e.cg (fun q _ _ => n q (by omega)), f.cg (by rw [n 13 (by decide)]) (n 14 (by decide)), by rw [hs_ix (by decide)]; exact g1, hs_same _ _ _ _, k.cg (n 83 (by decide)) (n 84 (by decide))⟩
theorem RS.st {h' : Hp} {v : Int32} (r : RS h h') : RS h (hs h' 0 12 v) := fun a ha => by rw [hs_ne (by omega)]; exact r a ha
theorem RS.rf : RS h h := fun _ _ => rfl
/-- a row's cells are written -/
theorem DI.row {h' : Hp} {r : Nat} {x : Option Rw} (H : DI h σ) (hr : r < 8) (hx : dR h' r x) (e : ∀ a, a ≠ 11 → a ≠ 12 → a ≠ 3 + r → h' a = h a) (e11 : ∀ q, q ≠ r → h' 11 q = h 11 q) (e12 : ∀ q, q ≠ r → h' 12 q = h 12 q) : DI h' (upR σ r x) := by
  obtain ⟨a, b, c, f, f2, g1, g2, k⟩ := H
  have n : ∀ q, (q < 3 ∨ 12 < q) → h' q = h q := fun q hq => e q (by omega) (by omega) (by omega)
  refine ⟨a.cg2 (fun q _ _ => n q (by omega)), b.cg (fun q _ _ => n q (by omega)), c.cg (fun q _ _ => n q (by omega)), fun q hq => ?_, f2.cg (by rw [n 13 (by decide)]) (n 14 (by decide)), by rw [n 0 (by decide)]; exact g1, by rw [n 0 (by decide)]; exact g2, k.cg (n 83 (by decide)) (n 84 (by decide))⟩
  show dR h' q (if q = r then x else gR σ q)
  by_cases z : q = r
  · rw [if_pos z, z]; exact hx
  · rw [if_neg z]
    have hq2 := f q hq
    cases hy : gR σ q with
    | none => rw [hy] at hq2; show h' 12 q = _; rw [e12 q z]; exact hq2
    | some y =>
      rw [hy] at hq2
      refine ⟨by rw [e12 q z]; exact hq2.1, by rw [e11 q z]; exact hq2.2.1, fun i hi => ?_⟩
      rw [e (3 + q) (by omega) (by omega) (by omega)]
      exact hq2.2.2 i hi
theorem OKS.row (H : OKS σ) : ∀ r y, gR σ r = some y → y.2.1 ≤ 40 := fun r y hy => (H.2.2.2.1 r y hy).2
theorem sd_row {x y z : Int32} {K : Int32 → Hp → Prop} (H : DI h σ) (k : ∀ h', DI h' (fRow σ x y z).2 → RS h h' → K (fRow σ x y z).1 h') : Call G (d + 2) mX6_row [.ref 0, .int x, .int y, .int z] h (pI K) := by
  have h40 : (nI 40).toInt = 40 := by decide
  refine Call.of (M := mX6_row) (n := 0) (by decide +kernel) rfl ?_
  show WP _ _ _ _ 0 [some (.ref 0), some (.int x), some (.int y), some (.int z)] [] _
  refine wp_iload_n (pc := 0) (i := 1) dX6_row_0 rfl rfl ?_
  refine wp_cS1i (pc := 1) lk_X6_70 dX6_row_1 rfl (sp_holds ?_)
  first | (with_reducible show WP _ _ _ _ _ _ (Value.int (bI _) :: _) _; refine wp_if_eqB (pc := 4) (tgt := 22) dX6_row_4 (by decide) (fun c4 => ?_) (fun c4 => ?_)) | (with_reducible show WP _ _ _ _ _ _ (Value.int (nI _) :: _) _; refine wp_if_eqN (pc := 4) (tgt := 22) dX6_row_4 (by decide) (by omega) (fun c4 => ?_) (fun c4 => ?_)) | refine wp_if_eq (pc := 4) (tgt := 22) dX6_row_4 (by decide) (fun c4 => ?_) (fun c4 => ?_)
  refine wp_ldc (pc := 22) kn_X6_78 dX6_row_22 ?_
  refine wp_iret (pc := 24) dX6_row_24 rfl ?_
  rotate_left
  refine wp_iload_n (pc := 7) (i := 2) dX6_row_7 rfl rfl ?_
  refine wp_iconst (pc := 8) (v := nI 0) dX6_row_8 rfl ?_
  refine wp_iconst (pc := 9) (v := nI 2) dX6_row_9 rfl ?_
  refine wp_cS3i (pc := 10) lk_X6_74 dX6_row_10 rfl (sp_btw (by decide) (by decide) ?_)
  first | (with_reducible show WP _ _ _ _ _ _ (Value.int (bI _) :: _) _; refine wp_if_eqB (pc := 13) (tgt := 22) dX6_row_13 (by decide) (fun c13 => ?_) (fun c13 => ?_)) | (with_reducible show WP _ _ _ _ _ _ (Value.int (nI _) :: _) _; refine wp_if_eqN (pc := 13) (tgt := 22) dX6_row_13 (by decide) (by omega) (fun c13 => ?_) (fun c13 => ?_)) | refine wp_if_eq (pc := 13) (tgt := 22) dX6_row_13 (by decide) (fun c13 => ?_) (fun c13 => ?_)
  refine wp_ldc (pc := 22) kn_X6_78 dX6_row_22 ?_
  refine wp_iret (pc := 24) dX6_row_24 rfl ?_
  rotate_left
  rotate_left
  · rw [fRow, c4] at k; exact k h H RS.rf
  · rw [fRow, c4, c13] at k; exact k h H RS.rf
  refine wp_iload_n (pc := 16) (i := 3) dX6_row_16 rfl rfl ?_
  refine wp_bipush (pc := 17) (v := nI 40) dX6_row_17 rfl ?_
  refine wp_icmp_le (pc := 19) (tgt := 25) dX6_row_19 (by decide) (fun c19 => ?_) (fun c19 => ?_)
  · have c19 := Int32.le_iff_toInt_le.mp c19
    refine wp_iload_n (pc := 25) (i := 3) dX6_row_25 rfl rfl ?_
    refine wp_if_ge (pc := 26) (tgt := 35) dX6_row_26 (by decide) (fun c26 => ?_) (fun c26 => ?_)
    · have c26 := Int32.le_iff_toInt_le.mp c26
      have e0 : (0 : Int32).toInt = 0 := by decide
      rw [fRow, c4, c13, decide_eq_true (by omega)] at k
      obtain ⟨r, hr, rfl⟩ := inN_t (by decide) c4
      obtain ⟨l, -, hl, rfl⟩ := btw_t (by decide) c13
      obtain ⟨n, hn2, rfl⟩ := nI_of ((le0_iff z).mpr (by omega))
      rw [nI_toInt hn2] at c19
      rw [nI_toInt hn2, nI_clamp (by omega), nI_clamp (by omega), nI_clamp hn2] at k
      refine wp_aload_n (pc := 35) (i := 0) dX6_row_35 rfl rfl ?_
      refine wp_gfr (pc := 36) fk_X6_10 dX6_row_36 rfl rfl (by decide) ?_
      refine wp_iload_n (pc := 39) (i := 1) dX6_row_39 rfl rfl ?_
      refine wp_iload_n (pc := 40) (i := 2) dX6_row_40 rfl rfl ?_
      refine wp_iload_n (pc := 41) (i := 3) dX6_row_41 rfl rfl ?_
      refine wp_cV3v (pc := 42) lk_X6_83 dX6_row_42 rfl rfl rfl ?_
      rotate_left
      refine sp_lay hr (by omega) (fun h1 q1 q2 q3 q4 => ?_)
      refine wp_aload_n (pc := 45) (i := 0) dX6_row_45 rfl rfl ?_
      refine wp_iconst (pc := 46) (v := nI 0) dX6_row_46 rfl ?_
      refine wp_pf (pc := 47) fp_X6_87 dX6_row_47 rfl rfl rfl rfl ?_
      refine wp_iload_n (pc := 50) (i := 3) dX6_row_50 rfl rfl ?_
      refine wp_iret (pc := 51) dX6_row_51 rfl ?_
      rotate_left
      refine k _ (DI.st (H.row hr (x := some (l, n, fun _ => nI 0)) ⟨?_, ?_, q3⟩ q4 (fun q hq => ?_) (fun q hq => ?_))) (RS.st (fun a ha => q4 a (by omega) (by omega) (by omega)))
      · rw [q1]; exact if_pos rfl
      · rw [q2]; exact if_pos rfl
      · rw [q2]; exact if_neg hq
      · rw [q1]; exact if_neg hq
    · have c26 := fun q => c26 (Int32.le_iff_toInt_le.mpr q)
      have e0 : (0 : Int32).toInt = 0 := by decide
      rw [fRow, c4, c13, decide_eq_true (by omega)] at k
      have c26 : z.toInt < 0 := by have := Int.not_le.mp c26; omega
      simp only [Bool.and_self, if_true, c26] at k
      refine wp_aload_n (pc := 29) (i := 0) dX6_row_29 rfl rfl ?_
      refine wp_iconst (pc := 30) (v := nI 4) dX6_row_30 rfl ?_
      refine wp_cV1i (pc := 31) lk_X6_79 dX6_row_31 rfl rfl rfl (sp_found ?_)
      refine wp_iret (pc := 34) dX6_row_34 rfl ?_
      rotate_left
      exact k _ H.st (RS.rf.st)
  · have c19 := Int.not_le.mp (fun q => c19 (Int32.le_iff_toInt_le.mpr q))
    rw [fRow, c4, c13, decide_eq_false (by omega)] at k
    refine wp_ldc (pc := 22) kn_X6_78 dX6_row_22 ?_
    refine wp_iret (pc := 24) dX6_row_24 rfl ?_
    rotate_left
    exact k h H RS.rf
theorem sd_set {x i v : Int32} {K : Int32 → Hp → Prop} (H : DI h σ) (hO : OKS σ) (k : ∀ h', DI h' (fSet σ x i v).2 → RS h h' → K (fSet σ x i v).1 h') : Call G (d + 2) mX6_set [.ref 0, .int x, .int i, .int v] h (pI K) := by
  refine Call.of (M := mX6_set) (n := 1) (by decide +kernel) rfl ?_
  show WP _ _ _ _ 0 [some (.ref 0), some (.int x), some (.int i), some (.int v), none] [] _
  refine wp_iload_n (pc := 0) (i := 1) dX6_set_0 rfl rfl ?_
  refine wp_cS1i (pc := 1) lk_X6_70 dX6_set_1 rfl (sp_holds ?_)
  first | (with_reducible show WP _ _ _ _ _ _ (Value.int (bI _) :: _) _; refine wp_if_neB (pc := 4) (tgt := 10) dX6_set_4 (by decide) (fun c4 => ?_) (fun c4 => ?_)) | (with_reducible show WP _ _ _ _ _ _ (Value.int (nI _) :: _) _; refine wp_if_neN (pc := 4) (tgt := 10) dX6_set_4 (by decide) (by omega) (fun c4 => ?_) (fun c4 => ?_)) | refine wp_if_ne (pc := 4) (tgt := 10) dX6_set_4 (by decide) (fun c4 => ?_) (fun c4 => ?_)
  rotate_left
  refine wp_ldc (pc := 7) kn_X6_78 dX6_set_7 ?_
  refine wp_iret (pc := 9) dX6_set_9 rfl ?_
  rotate_left
  rotate_left
  · rw [fSet, c4] at k; exact k h H RS.rf
  rw [fSet, c4] at k
  obtain ⟨r, hr, rfl⟩ := inN_t (by decide) c4
  rw [nI_clamp (by omega)] at k
  have hx := H.2.2.2.1 r hr
  have ho := hO.row r
  have ho3 := fun y hy => (hO.2.2.2.1 r y hy).1
  cases hR : gR σ r with
  | none =>
    rw [hR] at hx ho k
    refine wp_aload_n (pc := 10) (i := 0) dX6_set_10 rfl rfl ?_
    refine wp_gfr (pc := 11) fk_X6_10 dX6_set_11 rfl rfl (by decide) ?_
    refine wp_iload_n (pc := 14) (i := 1) dX6_set_14 rfl rfl ?_
    refine wp_iload_n (pc := 15) (i := 2) dX6_set_15 rfl rfl ?_
    refine wp_iconst (pc := 16) (v := nI 1) dX6_set_16 rfl ?_
    refine wp_cV3i (pc := 17) lk_X6_91 dX6_set_17 rfl rfl rfl (sp_findingOf hr hx ho ?_)
    refine wp_istore (pc := 20) (i := 4) dX6_set_20 rfl (by decide) rfl ?_
    dsimp only [List.set_cons_zero, List.set_cons_succ]
    refine wp_iload (pc := 22) (i := 4) dX6_set_22 rfl ?_
    rotate_left
    rw [show fin1 none i (nI 1) = 1 from rfl]
    refine wp_if_eqN (pc := 24) (tgt := 34) dX6_set_24 (by decide) (by decide) (fun c24 => ?_) (fun c24 => ?_)
    · cases c24
    refine wp_aload_n (pc := 27) (i := 0) dX6_set_27 rfl rfl ?_
    refine wp_iload (pc := 28) (i := 4) dX6_set_28 rfl ?_
    refine wp_cV1i (pc := 30) lk_X6_79 dX6_set_30 rfl rfl rfl (sp_found ?_)
    refine wp_iret (pc := 33) dX6_set_33 rfl ?_
    rotate_left
    exact k _ H.st (RS.rf.st)
  | some y =>
    rw [hR] at hx ho ho3 k
    have hl3 := ho3 y rfl
    have h40 := ho y rfl
    refine wp_aload_n (pc := 10) (i := 0) dX6_set_10 rfl rfl ?_
    refine wp_gfr (pc := 11) fk_X6_10 dX6_set_11 rfl rfl (by decide) ?_
    refine wp_iload_n (pc := 14) (i := 1) dX6_set_14 rfl rfl ?_
    refine wp_iload_n (pc := 15) (i := 2) dX6_set_15 rfl rfl ?_
    refine wp_iconst (pc := 16) (v := nI 1) dX6_set_16 rfl ?_
    refine wp_cV3i (pc := 17) lk_X6_91 dX6_set_17 rfl rfl rfl (sp_findingOf hr hx ho ?_)
    refine wp_istore (pc := 20) (i := 4) dX6_set_20 rfl (by decide) rfl ?_
    dsimp only [List.set_cons_zero, List.set_cons_succ]
    refine wp_iload (pc := 22) (i := 4) dX6_set_22 rfl ?_
    rotate_left
    by_cases hsp : spn y.2.1 i (nI 1) = true
    · have e1 : fin1 (some y) i (nI 1) = 0 := by rw [fin1, hsp]; rfl
      rw [e1]
      refine wp_if_eqN (pc := 24) (tgt := 34) dX6_set_24 (by decide) (by decide) (fun c24 => ?_) (fun c24 => ?_)
      · have k1 : ∀ h', DI h' (upS (upR σ r (some (y.1, y.2.1, upd y.2.2 i.toNatClampNeg (nar y.1 v)))) 0) → RS h h' → K (nar y.1 v) h' := by
          have hsp2 : spn y.2.1 i 1 = true := hsp
          simp only [hsp2, if_true] at k
          exact k
        have q := of_decide_eq_true hsp
        have e9 : (nI 1).toInt = 1 := by decide
        obtain ⟨j, hj, rfl⟩ := nI_of (x := i) ((le0_iff i).mpr q.1)
        rw [nI_toInt hj] at q
        rw [nI_clamp hj] at k1
        have hl : hs h 0 12 (nI 0) 11 r = nI y.1 := by rw [hs_ne (by decide)]; exact hx.2.1
        refine wp_aload_n (pc := 34) (i := 0) dX6_set_34 rfl rfl ?_
        refine wp_iconst (pc := 35) (v := nI 0) dX6_set_35 rfl ?_
        refine wp_pf (pc := 36) fp_X6_87 dX6_set_36 rfl rfl rfl rfl ?_
        refine wp_aload_n (pc := 39) (i := 0) dX6_set_39 rfl rfl ?_
        refine wp_gfr (pc := 40) fk_X6_10 dX6_set_40 rfl rfl (by decide) ?_
        refine wp_iload_n (pc := 43) (i := 1) dX6_set_43 rfl rfl ?_
        refine wp_iload_n (pc := 44) (i := 2) dX6_set_44 rfl rfl ?_
        refine wp_iload_n (pc := 45) (i := 3) dX6_set_45 rfl rfl ?_
        refine wp_cV3i (pc := 46) lk_X6_95 dX6_set_46 rfl rfl rfl (sp_put hr (by omega) hl hl3 ?_)
        refine wp_iret (pc := 49) dX6_set_49 rfl ?_
        rotate_left
        refine k1 _ ?_ (fun a ha => by rw [hs_ne (by omega), hs_ne (by omega)])
        have H1 := H.st (s := 0)
        have H2 := H1.row (h' := hs (hs h 0 12 (nI 0)) (3 + r) j (nar y.1 v)) hr (x := some (y.1, y.2.1, upd y.2.2 j (nar y.1 v))) ⟨?_, ?_, fun q hq => ?_⟩ (fun a a1 a2 a3 => hs_ne a3) (fun q hq => by rw [hs_ne (by omega)]) (fun q hq => by rw [hs_ne (by omega)])
        · exact H2
        · rw [hs_ne (by omega), hs_ne (by decide)]; exact hx.1
        · rw [hs_ne (by omega)]; exact hl
        · rw [hs_get]
          show _ = upd y.2.2 j (nar y.1 v) q
          unfold upd
          by_cases z : q = j
          · rw [if_pos ⟨rfl, z⟩, if_pos z]
          · rw [if_neg (fun w => z w.2), if_neg z, hs_ne (by omega)]; exact hx.2.2 q hq
      · exact absurd rfl c24
    · have e1 : fin1 (some y) i (nI 1) = 2 := by rw [fin1, if_neg hsp]
      have hsp2 : spn y.2.1 i 1 = false := by cases hq : spn y.2.1 i 1 with
        | false => rfl
        | true => exact absurd hq hsp
      simp only [hsp2, if_true, Bool.false_eq_true, if_false] at k
      rw [e1]
      refine wp_if_eqN (pc := 24) (tgt := 34) dX6_set_24 (by decide) (by decide) (fun c24 => ?_) (fun c24 => ?_)
      · cases c24
      refine wp_aload_n (pc := 27) (i := 0) dX6_set_27 rfl rfl ?_
      refine wp_iload (pc := 28) (i := 4) dX6_set_28 rfl ?_
      refine wp_cV1i (pc := 30) lk_X6_79 dX6_set_30 rfl rfl rfl (sp_found ?_)
      refine wp_iret (pc := 33) dX6_set_33 rfl ?_
      rotate_left
      exact k _ H.st (RS.rf.st)
theorem sd_drop {x : Int32} {K : Int32 → Hp → Prop} (H : DI h σ) (hO : OKS σ) (k : ∀ h', DI h' (fDrop σ x).2 → RS h h' → K (fDrop σ x).1 h') : Call G (d + 2) mX6_drop [.ref 0, .int x] h (pI K) := by
  refine Call.of (M := mX6_drop) (n := 0) (by decide +kernel) rfl ?_
  show WP _ _ _ _ 0 [some (.ref 0), some (.int x)] [] _
  refine wp_iload_n (pc := 0) (i := 1) dX6_drop_0 rfl rfl ?_
  refine wp_cS1i (pc := 1) lk_X6_70 dX6_drop_1 rfl (sp_holds ?_)
  first | (with_reducible show WP _ _ _ _ _ _ (Value.int (bI _) :: _) _; refine wp_if_neB (pc := 4) (tgt := 10) dX6_drop_4 (by decide) (fun c4 => ?_) (fun c4 => ?_)) | (with_reducible show WP _ _ _ _ _ _ (Value.int (nI _) :: _) _; refine wp_if_neN (pc := 4) (tgt := 10) dX6_drop_4 (by decide) (by omega) (fun c4 => ?_) (fun c4 => ?_)) | refine wp_if_ne (pc := 4) (tgt := 10) dX6_drop_4 (by decide) (fun c4 => ?_) (fun c4 => ?_)
  rotate_left
  refine wp_ldc (pc := 7) kn_X6_78 dX6_drop_7 ?_
  refine wp_iret (pc := 9) dX6_drop_9 rfl ?_
  rotate_left
  rotate_left
  · rw [fDrop, c4] at k; exact k h H RS.rf
  rw [fDrop, c4] at k
  obtain ⟨r, hr, rfl⟩ := inN_t (by decide) c4
  rw [nI_clamp (by omega)] at k
  have hx := H.2.2.2.1 r hr
  have ho := hO.row r
  cases hR : gR σ r with
  | none =>
    rw [hR] at hx ho k
    refine wp_aload_n (pc := 10) (i := 0) dX6_drop_10 rfl rfl ?_
    refine wp_gfr (pc := 11) fk_X6_10 dX6_drop_11 rfl rfl (by decide) ?_
    refine wp_iload_n (pc := 14) (i := 1) dX6_drop_14 rfl rfl ?_
    refine wp_cV1i (pc := 15) lk_X6_106 dX6_drop_15 rfl rfl rfl (sp_isMissing hr hx ho ?_)
    first | (with_reducible show WP _ _ _ _ _ _ (Value.int (bI _) :: _) _; refine wp_if_eqB (pc := 18) (tgt := 27) dX6_drop_18 (by decide) (fun c18 => ?_) (fun c18 => ?_)) | (with_reducible show WP _ _ _ _ _ _ (Value.int (nI _) :: _) _; refine wp_if_eqN (pc := 18) (tgt := 27) dX6_drop_18 (by decide) (by omega) (fun c18 => ?_) (fun c18 => ?_)) | refine wp_if_eq (pc := 18) (tgt := 27) dX6_drop_18 (by decide) (fun c18 => ?_) (fun c18 => ?_)
    rotate_left
    refine wp_aload_n (pc := 21) (i := 0) dX6_drop_21 rfl rfl ?_
    refine wp_iconst (pc := 22) (v := nI 1) dX6_drop_22 rfl ?_
    refine wp_cV1i (pc := 23) lk_X6_79 dX6_drop_23 rfl rfl rfl (sp_found ?_)
    refine wp_iret (pc := 26) dX6_drop_26 rfl ?_
    rotate_left
    · cases c18
    · exact k _ H.st (RS.rf.st)
  | some y =>
    rw [hR] at hx ho k
    have hx2 : hs h 0 12 (nI 0) 12 r = nI y.2.1 := by rw [hs_ne (by decide)]; exact hx.1
    refine wp_aload_n (pc := 10) (i := 0) dX6_drop_10 rfl rfl ?_
    refine wp_gfr (pc := 11) fk_X6_10 dX6_drop_11 rfl rfl (by decide) ?_
    refine wp_iload_n (pc := 14) (i := 1) dX6_drop_14 rfl rfl ?_
    refine wp_cV1i (pc := 15) lk_X6_106 dX6_drop_15 rfl rfl rfl (sp_isMissing hr hx ho ?_)
    first | (with_reducible show WP _ _ _ _ _ _ (Value.int (bI _) :: _) _; refine wp_if_eqB (pc := 18) (tgt := 27) dX6_drop_18 (by decide) (fun c18 => ?_) (fun c18 => ?_)) | (with_reducible show WP _ _ _ _ _ _ (Value.int (nI _) :: _) _; refine wp_if_eqN (pc := 18) (tgt := 27) dX6_drop_18 (by decide) (by omega) (fun c18 => ?_) (fun c18 => ?_)) | refine wp_if_eq (pc := 18) (tgt := 27) dX6_drop_18 (by decide) (fun c18 => ?_) (fun c18 => ?_)
    refine wp_aload_n (pc := 27) (i := 0) dX6_drop_27 rfl rfl ?_
    refine wp_iconst (pc := 28) (v := nI 0) dX6_drop_28 rfl ?_
    refine wp_pf (pc := 29) fp_X6_87 dX6_drop_29 rfl rfl rfl rfl ?_
    refine wp_aload_n (pc := 32) (i := 0) dX6_drop_32 rfl rfl ?_
    refine wp_gfr (pc := 33) fk_X6_10 dX6_drop_33 rfl rfl (by decide) ?_
    refine wp_iload_n (pc := 36) (i := 1) dX6_drop_36 rfl rfl ?_
    refine wp_cV1i (pc := 37) lk_X6_109 dX6_drop_37 rfl rfl rfl (sp_takeAway hr hx2 ?_)
    refine wp_iret (pc := 40) dX6_drop_40 rfl ?_
    rotate_left
    rotate_left
    · refine k _ ?_ (fun a ha => by rw [hs_ne (by omega), hs_ne (by omega)])
      exact (H.st (s := 0)).row hr (x := none) (hs_same _ _ _ _) (fun a a1 a2 a3 => hs_ne a2) (fun q hq => by rw [hs_ne (by decide)]) (fun q hq => hs_ix hq)
    · cases c18
end DROWS
