/-! the reference: what it holds -/
def RW (h : Hp) (b : Nat) (T : Tn) : Prop := ∀ k, k < 56 → h 90 (b + k) = nI (T k)
def rR (h : Hp) (r : Nat) : Option Rw → Prop
  | none => h 93 r = kM1
  | some x => h 93 r = nI x.2.1 ∧ h 92 r = nI x.1 ∧ ∀ i, i < x.2.1 → h 94 (40 * r + i) = x.2.2 i
def RR (h : Hp) (R : Nat → Option Rw) : Prop := ∀ r, r < 8 → rR h r (R r)
def RA (h : Hp) (P : List Tn) : Prop := h 89 2 = nI P.length ∧ P.length ≤ 24 ∧ ∀ j T, P[j]? = some T → RW h (56 + 56 * j) T
def rG (h : Hp) (k : Nat) : Option Tn → Prop
  | none => h 91 k = nI 0
  | some T => h 91 k = nI 1 ∧ RW h (1400 + 56 * k) T
def RG (h : Hp) (I : Nat → Option Tn) : Prop := ∀ k, k < 2 → rG h k (I k)
def RB (h : Hp) (B : List Nat) : Prop := h 89 8 = nI B.length ∧ ∀ i b, B[i]? = some b → h 95 i = nI b
def RK (h : Hp) (K : List Nat) : Prop := h 89 12 = nI K.length ∧ ∀ i b, K[i]? = some b → h 96 i = nI b
def RI (h : Hp) (σ : Sg) : Prop := RW h 0 (gT σ) ∧ h 89 1 = nI (if 0 < gT σ 1 then 1 else 0) ∧ RA h (gP σ) ∧ RG h (gIm σ) ∧ RR h (gR σ) ∧ RB h (gB σ) ∧ h 89 9 = nI (gF σ) ∧ h 89 10 = nI (gS σ) ∧ RK h (gK σ)
/-- the class's cells stay -/
def DS (h h' : Hp) : Prop := ∀ a, a < 89 → h' a = h a
theorem DS.rf {h : Hp} : DS h h := fun _ _ => rfl
theorem DS.tr {h h1 h2 : Hp} (a : DS h h1) (b : DS h1 h2) : DS h h2 := fun q e => (b q e).trans (a q e)
/-- only what is worked on has changed -/
def SR (h h' : Hp) : Prop := (∀ a, a < 89 ∨ (90 < a ∧ a < 97) → h' a = h a) ∧ (∀ k, k < 1512 → h' 90 k = h 90 k) ∧ (∀ k, k < 13 ∨ 15 < k → h' 89 k = h 89 k)
theorem SR.rf (h : Hp) : SR h h := ⟨fun _ _ => rfl, fun _ _ => rfl, fun _ _ => rfl⟩
theorem SR.tr {h h1 h2 : Hp} (a : SR h h1) (b : SR h1 h2) : SR h h2 := ⟨fun q e => (b.1 q e).trans (a.1 q e), fun q e => (b.2.1 q e).trans (a.2.1 q e), fun q e => (b.2.2 q e).trans (a.2.2 q e)⟩
theorem SR.ds {h h' : Hp} (a : SR h h') : DS h h' := fun q e => a.1 q (by omega)
theorem RW.cg {h h' : Hp} {b : Nat} {T : Tn} (e : ∀ k, b ≤ k → k < b + 56 → h' 90 k = h 90 k) (H : RW h b T) : RW h' b T := fun k hk => by rw [e (b + k) (by omega) (by omega)]; exact H k hk
theorem RR.cg {h h' : Hp} {R : Nat → Option Rw} (e2 : h' 92 = h 92) (e3 : h' 93 = h 93) (e4 : h' 94 = h 94) (H : RR h R) : RR h' R := fun r hr => by
  have := H r hr
  cases hx : R r with
  | none => rw [hx] at this; show h' 93 r = _; rw [e3]; exact this
  | some x => rw [hx] at this; show h' 93 r = _ ∧ h' 92 r = _ ∧ ∀ i, _ → h' 94 _ = _; rw [e2, e3, e4]; exact this
theorem RA.cg {h h' : Hp} {P : List Tn} (e1 : h' 89 2 = h 89 2) (e : ∀ k, 56 ≤ k → k < 1400 → h' 90 k = h 90 k) (H : RA h P) : RA h' P := by
  obtain ⟨a, b, c⟩ := H
  refine ⟨by rw [e1]; exact a, b, fun j T hj => (c j T hj).cg (fun k k1 k2 => ?_)⟩
  have : j < P.length := (List.getElem?_eq_some_iff.mp hj).1
  exact e k (by omega) (by omega)
theorem RG.cg {h h' : Hp} {I : Nat → Option Tn} (e1 : h' 91 = h 91) (e : ∀ k, 1400 ≤ k → k < 1512 → h' 90 k = h 90 k) (H : RG h I) : RG h' I := fun k hk => by
  have := H k hk
  cases hx : I k with
  | none => rw [hx] at this; show h' 91 k = _; rw [e1]; exact this
  | some T => rw [hx] at this; exact ⟨by rw [e1]; exact this.1, this.2.cg (fun q q1 q2 => e q (by omega) (by omega))⟩
theorem RB.cg {h h' : Hp} {B : List Nat} (e1 : h' 89 8 = h 89 8) (e : h' 95 = h 95) (H : RB h B) : RB h' B := by unfold RB; rw [e1, e]; exact H
theorem RK.cg {h h' : Hp} {K : List Nat} (e1 : h' 89 12 = h 89 12) (e : h' 96 = h 96) (H : RK h K) : RK h' K := by unfold RK; rw [e1, e]; exact H
theorem RI.sr {h h' : Hp} {σ : Sg} (e : SR h h') (H : RI h σ) : RI h' σ := by
  obtain ⟨a, a2, b, c, f, g, g1, g2, k⟩ := H
  exact ⟨a.cg (fun q _ _ => e.2.1 q (by omega)), by rw [e.2.2 1 (by omega)]; exact a2, b.cg (e.2.2 2 (by omega)) (fun q _ _ => e.2.1 q (by omega)), c.cg (e.1 91 (by omega)) (fun q _ _ => e.2.1 q (by omega)), f.cg (e.1 92 (by omega)) (e.1 93 (by omega)) (e.1 94 (by omega)), g.cg (e.2.2 8 (by omega)) (e.1 95 (by omega)), by rw [e.2.2 9 (by omega)]; exact g1, by rw [e.2.2 10 (by omega)]; exact g2, k.cg (e.2.2 12 (by omega)) (e.1 96 (by omega))⟩
theorem DI.ds {h h' : Hp} {σ : Sg} (e : DS h h') (H : DI h σ) : DI h' σ := by
  obtain ⟨a, b, c, d, f, g1, g2, k⟩ := H
  exact ⟨a.cg2 (fun q q1 q2 => e q (by omega)), b.cg (fun q _ _ => e q (by omega)), c.cg (fun q _ _ => e q (by omega)), d.cg (fun q _ _ => e q (by omega)), f.cg (by rw [e 13 (by omega)]) (e 14 (by omega)), by rw [e 0 (by omega)]; exact g1, by rw [e 0 (by omega)]; exact g2, k.cg (e 83 (by omega)) (e 84 (by omega))⟩
theorem RI.rs0 {h h' : Hp} {σ : Sg} (e : ∀ a, 88 < a ∧ a < 100 → h' a = h a) (H : RI h σ) : RI h' σ := by
  obtain ⟨a, a2, b, c, f, g, g1, g2, k⟩ := H
  have e9 := e 89 (by decide)
  have e0 := e 90 (by decide)
  exact ⟨a.cg (fun q _ _ => by rw [e0]), by rw [e9]; exact a2, b.cg (by rw [e9]) (fun q _ _ => by rw [e0]), c.cg (e 91 (by omega)) (fun q _ _ => by rw [e0]), f.cg (e 92 (by omega)) (e 93 (by omega)) (e 94 (by omega)), g.cg (by rw [e9]) (e 95 (by omega)), by rw [e9]; exact g1, by rw [e9]; exact g2, k.cg (by rw [e9]) (e 96 (by omega))⟩
theorem RI.rs {h h' : Hp} {σ : Sg} (e : RS h h') (H : RI h σ) : RI h' σ := H.rs0 (fun a ha => e a (Or.inl ha))
theorem tI64 (x : Int32) : x.toInt64.toInt = x.toInt := by simp
section REF1
variable {G : Gt} {d : Nat} {h : Hp} {σ : Sg} {T : Tn}
theorem sp7_in {x a b : Int64} {K : Int32 → Hp → Prop} (k : K (bI (decide (a.toInt ≤ x.toInt ∧ x.toInt ≤ b.toInt))) h) : Call G d mX7_in [.long x, .long a, .long b] h (pI K) := by
  refine Call.of (M := mX7_in) (n := 0) (by decide +kernel) rfl ?_
  show WP _ _ _ _ 0 [some (.long x), none, some (.long a), none, some (.long b), none] [] _
  refine wp_lload_n (pc := 0) (i := 0) dX7_in_0 rfl rfl ?_
  refine wp_lload_n (pc := 1) (i := 2) dX7_in_1 rfl rfl ?_
  refine wp_lcmp (pc := 2) dX7_in_2 ?_
  rotate_left
  refine wp_if_lt (pc := 3) (tgt := 17) dX7_in_3 (by decide) (fun c3 => ?_) (fun c3 => ?_)
  · rw [lg_cmp_lt] at c3
    refine wp_iconst (pc := 17) (v := nI 0) dX7_in_17 rfl ?_
    refine wp_zret (pc := 18) dX7_in_18 rfl (by first | exact Or.inl rfl | exact Or.inr rfl | assumption | exact bI_01 _) ?_
    rotate_left
    rw [decide_eq_false (fun q => by have := Int64.lt_iff_toInt_lt.mp c3; omega)] at k
    exact k
  rw [lg_cmp_lt] at c3
  refine wp_lload_n (pc := 6) (i := 0) dX7_in_6 rfl rfl ?_
  refine wp_lload (pc := 7) (i := 4) dX7_in_7 rfl ?_
  refine wp_lcmp (pc := 9) dX7_in_9 ?_
  rotate_left
  refine wp_if_gt (pc := 10) (tgt := 17) dX7_in_10 (by decide) (fun c10 => ?_) (fun c10 => ?_)
  · rw [lg_cmp_gt] at c10
    refine wp_iconst (pc := 17) (v := nI 0) dX7_in_17 rfl ?_
    refine wp_zret (pc := 18) dX7_in_18 rfl (by first | exact Or.inl rfl | exact Or.inr rfl | assumption | exact bI_01 _) ?_
    rotate_left
    rw [decide_eq_false (fun q => by have := Int64.lt_iff_toInt_lt.mp c10; omega)] at k
    exact k
  rw [lg_cmp_gt] at c10
  refine wp_iconst (pc := 13) (v := nI 1) dX7_in_13 rfl ?_
  refine wp_goto (pc := 14) (tgt := 18) dX7_in_14 (by decide) ?_
  refine wp_zret (pc := 18) dX7_in_18 rfl (by first | exact Or.inl rfl | exact Or.inr rfl | assumption | exact bI_01 _) ?_
  rotate_left
  rw [decide_eq_true ⟨Int.not_lt.mp (fun q => c3 (Int64.lt_iff_toInt_lt.mpr q)), Int.not_lt.mp (fun q => c10 (Int64.lt_iff_toInt_lt.mpr q))⟩] at k
  exact k
theorem sp7_btw {x : Int32} {a b : Nat} {K : Int32 → Hp → Prop} (ha : a < 2 ^ 31) (hb : b < 2 ^ 31) (k : K (bI (btw x a b)) h) : Call G d mX7_in [.long x.toInt64, .long (lN a), .long (lN b)] h (pI K) := sp7_in (by rw [tI64, lN_toInt ha, lN_toInt hb]; exact k)
theorem sp7_btwN {x a b : Nat} {K : Int32 → Hp → Prop} (hx : x < 2 ^ 31) (ha : a < 2 ^ 31) (hb : b < 2 ^ 31) (k : K (bI (decide (a ≤ x ∧ x ≤ b))) h) : Call G d mX7_in [.long (lN x), .long (lN a), .long (lN b)] h (pI K) := sp7_in (by
  rw [lN_toInt hx, lN_toInt ha, lN_toInt hb]
  rw [show decide ((a : Int) ≤ x ∧ (x : Int) ≤ b) = decide (a ≤ x ∧ x ≤ b) from decide_eq_decide.mpr (by omega)]
  exact k)
theorem sp7_isRow {x : Int32} {K : Int32 → Hp → Prop} (k : K (bI (inN x 8)) h) : Call G (d + 1) mX7_isRow [.int x] h (pI K) := by
  refine Call.of (M := mX7_isRow) (n := 0) (by decide +kernel) rfl ?_
  show WP _ _ _ _ 0 [some (.int x)] [] _
  refine wp_iload_n (pc := 0) (i := 0) dX7_isRow_0 rfl rfl ?_
  first | (with_reducible show WP _ _ _ _ _ _ (Value.int (nI _) :: _) _; refine wp_i2lN (pc := 1) dX7_isRow_1 (by omega) ?_) | refine wp_i2l (pc := 1) dX7_isRow_1 rfl ?_
  refine wp_lconst (pc := 2) (v := lN 0) dX7_isRow_2 rfl ?_
  refine wp_ldc2 (pc := 3) kn_X7_46 dX7_isRow_3 ?_
  refine wp_cS3i (pc := 6) lk_X7_48 dX7_isRow_6 rfl (sp7_btw (by decide) (by decide) ?_)
  refine wp_zret (pc := 9) dX7_isRow_9 rfl (by first | exact Or.inl rfl | exact Or.inr rfl | assumption | exact bI_01 _) ?_
  rotate_left
  rw [show inN x 8 = btw x 0 7 from decide_eq_decide.mpr (by omega)] at k
  exact k
theorem sp7_find {n : Nat} {K : Int32 → Hp → Prop} (k : K (kFOUND - nI n) (hs h 89 10 (nI n))) : Call G d mX7_find [.ref 89, .int (nI n)] h (pI K) := by
  refine Call.of (M := mX7_find) (n := 0) (by decide +kernel) rfl ?_
  show WP _ _ _ _ 0 [some (.ref 89), some (.int (nI n))] [] _
  refine wp_aload_n (pc := 0) (i := 0) dX7_find_0 rfl rfl ?_
  refine wp_iload_n (pc := 1) (i := 1) dX7_find_1 rfl rfl ?_
  refine wp_pf (pc := 2) fp_X7_41 dX7_find_2 rfl rfl rfl rfl ?_
  refine wp_ldc (pc := 5) kn_X7_45 dX7_find_5 ?_
  refine wp_iload_n (pc := 7) (i := 1) dX7_find_7 rfl rfl ?_
  first | (with_reducible show WP _ _ _ _ _ _ (Value.int (nI _) :: Value.int (nI _) :: _) _; refine wp_isubN (pc := 8) dX7_find_8 (by omega) ?_) | refine wp_isub (pc := 8) dX7_find_8 ?_
  refine wp_iret (pc := 9) dX7_find_9 rfl ?_
  rotate_left
  exact k
theorem sp7_well {x : Int32} {K : Int32 → Hp → Prop} (k : K x (hs h 89 10 (nI 0))) : Call G d mX7_well [.ref 89, .int x] h (pI K) := by
  refine Call.of (M := mX7_well) (n := 0) (by decide +kernel) rfl ?_
  show WP _ _ _ _ 0 [some (.ref 89), some (.int x)] [] _
  refine wp_aload_n (pc := 0) (i := 0) dX7_well_0 rfl rfl ?_
  refine wp_iconst (pc := 1) (v := nI 0) dX7_well_1 rfl ?_
  refine wp_pf (pc := 2) fp_X7_41 dX7_well_2 rfl rfl rfl rfl ?_
  refine wp_iload_n (pc := 5) (i := 1) dX7_well_5 rfl rfl ?_
  refine wp_iret (pc := 6) dX7_well_6 rfl ?_
  rotate_left
  exact k
theorem sp7_narrow {l : Nat} {v : Int32} {K : Int32 → Hp → Prop} (hl : l < 3) (k : K (nar l v) h) : Call G d mX7_narrow [.int v, .int (nI l)] h (pI K) := by
  refine Call.of (M := mX7_narrow) (n := 0) (by decide +kernel) rfl ?_
  show WP _ _ _ _ 0 [some (.int v), some (.int (nI l))] [] _
  refine wp_iload_n (pc := 0) (i := 1) dX7_narrow_0 rfl rfl ?_
  first | (with_reducible show WP _ _ _ _ _ _ (Value.int (bI _) :: _) _; refine wp_if_neB (pc := 1) (tgt := 9) dX7_narrow_1 (by decide) (fun c1 => ?_) (fun c1 => ?_)) | (with_reducible show WP _ _ _ _ _ _ (Value.int (nI _) :: _) _; refine wp_if_neN (pc := 1) (tgt := 9) dX7_narrow_1 (by decide) (by omega) (fun c1 => ?_) (fun c1 => ?_)) | refine wp_if_ne (pc := 1) (tgt := 9) dX7_narrow_1 (by decide) (fun c1 => ?_) (fun c1 => ?_)
  refine wp_iload_n (pc := 9) (i := 1) dX7_narrow_9 rfl rfl ?_
  refine wp_iconst (pc := 10) (v := nI 1) dX7_narrow_10 rfl ?_
  first | (with_reducible show WP _ _ _ _ _ _ (Value.int (nI _) :: Value.int (nI _) :: _) _; refine wp_icmp_neN (pc := 11) (tgt := 19) dX7_narrow_11 (by decide) (by omega) (by omega) (fun c11 => ?_) (fun c11 => ?_)) | refine wp_icmp_ne (pc := 11) (tgt := 19) dX7_narrow_11 (by decide) (fun c11 => ?_) (fun c11 => ?_)
  refine wp_iload_n (pc := 19) (i := 0) dX7_narrow_19 rfl rfl ?_
  refine wp_iret (pc := 20) dX7_narrow_20 rfl ?_
  rotate_left
  refine wp_iload_n (pc := 14) (i := 0) dX7_narrow_14 rfl rfl ?_
  refine wp_i2s (pc := 15) dX7_narrow_15 rfl ?_
  refine wp_goto (pc := 16) (tgt := 20) dX7_narrow_16 (by decide) ?_
  refine wp_iret (pc := 20) dX7_narrow_20 rfl ?_
  rotate_left
  refine wp_iload_n (pc := 4) (i := 0) dX7_narrow_4 rfl rfl ?_
  refine wp_i2b (pc := 5) dX7_narrow_5 rfl ?_
  refine wp_goto (pc := 6) (tgt := 20) dX7_narrow_6 (by decide) ?_
  refine wp_iret (pc := 20) dX7_narrow_20 rfl ?_
  rotate_left
  · rw [nar, if_neg (by omega), if_neg (by omega)] at k; exact k
  · rw [nar, if_neg (by omega), if_pos (by omega)] at k; exact k
  · rw [nar, if_pos (by omega)] at k; exact k
theorem sp7_isSpan {r z : Nat} {i n : Int32} {K : Int32 → Hp → Prop} (hr : r < 8) (hx : h 93 r = nI z) (hz : z ≤ 40) (k : K (bI (spn z i n)) h) : Call G d mX7_isSpan [.ref 89, .int (nI r), .int i, .int n] h (pI K) := by
  refine Call.of (M := mX7_isSpan) (n := 0) (by decide +kernel) rfl ?_
  show WP _ _ _ _ 0 [some (.ref 89), some (.int (nI r)), some (.int i), some (.int n)] [] _
  refine wp_iload_n (pc := 0) (i := 2) dX7_isSpan_0 rfl rfl ?_
  refine wp_if_lt (pc := 1) (tgt := 28) dX7_isSpan_1 (by decide) (fun c1 => ?_) (fun c1 => ?_)
  · refine wp_iconst (pc := 28) (v := nI 0) dX7_isSpan_28 rfl ?_
    refine wp_zret (pc := 29) dX7_isSpan_29 rfl (by first | exact Or.inl rfl | exact Or.inr rfl | assumption | exact bI_01 _) ?_
    rotate_left
    rw [spn, decide_eq_false (fun q => by have := (lt0_iff i).mp c1; omega)] at k
    exact k
  have d1 := (le0_iff i).mp c1
  refine wp_iload_n (pc := 4) (i := 3) dX7_isSpan_4 rfl rfl ?_
  refine wp_if_lt (pc := 5) (tgt := 28) dX7_isSpan_5 (by decide) (fun c5 => ?_) (fun c5 => ?_)
  · refine wp_iconst (pc := 28) (v := nI 0) dX7_isSpan_28 rfl ?_
    refine wp_zret (pc := 29) dX7_isSpan_29 rfl (by first | exact Or.inl rfl | exact Or.inr rfl | assumption | exact bI_01 _) ?_
    rotate_left
    rw [spn, decide_eq_false (fun q => by have := (lt0_iff n).mp c5; omega)] at k
    exact k
  have d2 := (le0_iff n).mp c5
  obtain ⟨i', hi', rfl⟩ := nI_of c1
  obtain ⟨n', hn', rfl⟩ := nI_of c5
  rw [nI_toInt hi'] at d1
  rw [nI_toInt hn'] at d2
  refine wp_iload_n (pc := 8) (i := 2) dX7_isSpan_8 rfl rfl ?_
  first | (with_reducible show WP _ _ _ _ _ _ (Value.int (nI _) :: _) _; refine wp_i2lN (pc := 9) dX7_isSpan_9 (by omega) ?_) | refine wp_i2l (pc := 9) dX7_isSpan_9 rfl ?_
  refine wp_iload_n (pc := 10) (i := 3) dX7_isSpan_10 rfl rfl ?_
  first | (with_reducible show WP _ _ _ _ _ _ (Value.int (nI _) :: _) _; refine wp_i2lN (pc := 11) dX7_isSpan_11 (by omega) ?_) | refine wp_i2l (pc := 11) dX7_isSpan_11 rfl ?_
  refine wp_ladd (pc := 12) dX7_isSpan_12 ?_
  refine wp_aload_n (pc := 13) (i := 0) dX7_isSpan_13 rfl rfl ?_
  refine wp_gfr (pc := 14) fk_X7_20 dX7_isSpan_14 rfl rfl (by decide) ?_
  refine wp_iload_n (pc := 17) (i := 1) dX7_isSpan_17 rfl rfl ?_
  first | (with_reducible show WP _ _ _ _ _ _ (Value.int (nI _) :: _) _; refine wp_ialdN (pc := 18) dX7_isSpan_18 rfl (by omega) (by first | with_reducible assumption | with_reducible exact hs_same _ _ _ _ | rfl) ?_) | refine wp_iald (pc := 18) dX7_isSpan_18 rfl (by assumption) rfl ?_
  first | (with_reducible show WP _ _ _ _ _ _ (Value.int (nI _) :: _) _; refine wp_i2lN (pc := 19) dX7_isSpan_19 (by omega) ?_) | refine wp_i2l (pc := 19) dX7_isSpan_19 rfl ?_
  refine wp_lcmp (pc := 20) dX7_isSpan_20 ?_
  rotate_left
  rw [lN_add]
  refine wp_if_gt (pc := 21) (tgt := 28) dX7_isSpan_21 (by decide) (fun c21 => ?_) (fun c21 => ?_)
  · rw [lg_cmp_gt, pk_lLT (by omega) (by omega)] at c21
    refine wp_iconst (pc := 28) (v := nI 0) dX7_isSpan_28 rfl ?_
    refine wp_zret (pc := 29) dX7_isSpan_29 rfl (by first | exact Or.inl rfl | exact Or.inr rfl | assumption | exact bI_01 _) ?_
    rotate_left
    rw [spn, nI_toInt hi', nI_toInt hn', decide_eq_false (by omega)] at k
    exact k
  rw [lg_cmp_gt, pk_lLT (by omega) (by omega)] at c21
  refine wp_iconst (pc := 24) (v := nI 1) dX7_isSpan_24 rfl ?_
  refine wp_goto (pc := 25) (tgt := 29) dX7_isSpan_25 (by decide) ?_
  refine wp_zret (pc := 29) dX7_isSpan_29 rfl (by first | exact Or.inl rfl | exact Or.inr rfl | assumption | exact bI_01 _) ?_
  rotate_left
  rw [spn, nI_toInt hi', nI_toInt hn', decide_eq_true (by omega)] at k
  exact k
theorem RI.st {s : Nat} (H : RI h σ) : RI (hs h 89 10 (nI s)) (upS σ s) := by
  obtain ⟨a, a2, b, c, f, g, g1, g2, k⟩ := H
  have n : ∀ q, q ≠ 89 → hs h 89 10 (nI s) q = h q := fun q hq => hs_ne hq
  exact ⟨a.cg (fun q _ _ => by rw [n 90 (by decide)]), by rw [hs_ix (by decide)]; exact a2, b.cg (hs_ix (by decide)) (fun q _ _ => by rw [n 90 (by decide)]), c.cg (n 91 (by decide)) (fun q _ _ => by rw [n 90 (by decide)]), f.cg (n 92 (by decide)) (n 93 (by decide)) (n 94 (by decide)), g.cg (hs_ix (by decide)) (n 95 (by decide)), by rw [hs_ix (by decide)]; exact g1, hs_same _ _ _ _, k.cg (hs_ix (by decide)) (n 96 (by decide))⟩
theorem RI.row {h' : Hp} {r : Nat} {x : Option Rw} (H : RI h σ) (hr : r < 8) (hx : rR h' r x) (hok : ∀ q y, gR σ q = some y → y.2.1 ≤ 40) (e : ∀ a, a ≠ 92 → a ≠ 93 → a ≠ 94 → h' a = h a) (e2 : ∀ q, q ≠ r → h' 92 q = h 92 q) (e3 : ∀ q, q ≠ r → h' 93 q = h 93 q) (e4 : ∀ q, q < 40 * r ∨ 40 * r + 40 ≤ q → h' 94 q = h 94 q) : RI h' (upR σ r x) := by
  obtain ⟨a, a2, b, c, f, g, g1, g2, k⟩ := H
  have n : ∀ q, (q < 92 ∨ 94 < q) → h' q = h q := fun q hq => e q (by omega) (by omega) (by omega)
  refine ⟨a.cg (fun q _ _ => by rw [n 90 (by decide)]), by rw [n 89 (by decide)]; exact a2, b.cg (by rw [n 89 (by decide)]) (fun q _ _ => by rw [n 90 (by decide)]), c.cg (n 91 (by decide)) (fun q _ _ => by rw [n 90 (by decide)]), fun q hq => ?_, g.cg (by rw [n 89 (by decide)]) (n 95 (by decide)), by rw [n 89 (by decide)]; exact g1, by rw [n 89 (by decide)]; exact g2, k.cg (by rw [n 89 (by decide)]) (n 96 (by decide))⟩
  show rR h' q (if q = r then x else gR σ q)
  by_cases z : q = r
  · rw [if_pos z, z]; exact hx
  · rw [if_neg z]
    have hq2 := f q hq
    cases hy : gR σ q with
    | none => rw [hy] at hq2; show h' 93 q = _; rw [e3 q z]; exact hq2
    | some y =>
      rw [hy] at hq2
      refine ⟨by rw [e3 q z]; exact hq2.1, by rw [e2 q z]; exact hq2.2.1, fun i hi => ?_⟩
      have := hok q y hy
      rw [e4 (40 * q + i) (by omega)]
      exact hq2.2.2 i hi
end REF1
