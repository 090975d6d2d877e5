/-! kinds, and what a gran says when asked -/
def ofK (k n : Nat) : Bool := decide (n = 0 ∨ n = k ∨ (n = 1 ∧ (k = 2 ∨ k = 3)) ∨ (n = 4 ∧ k = 5))
def upK (σ : Sg) (L : List Nat) : Sg := (gT σ, gP σ, gIm σ, gR σ, gB σ, gF σ, gS σ, L)
def fAs (σ : Sg) (x n : Int32) : Int32 × Sg := if inN x (gT σ 1) && btw n 0 5 then (if ofK (gT σ (20 + x.toNatClampNeg)) n.toNatClampNeg then (x, upS σ 0) else (kFOUND - nI 3, upS σ 3)) else (kBAD, σ)
def mS (o k f : Nat) : Int32 := if k = 3 then nI (o + f) - nI 1000 else if k = 2 then nI (2 * (o + f)) else nI (o + f)
def mL (k : Nat) : List Nat := if k = 3 then [22, 21, 20] else if k = 2 then [24, 21, 20] else [21, 20]
def zS (o k a f : Nat) : Int32 := nI a + mS o k f
def zL (k : Nat) : List Nat := [11, 10] ++ mL k
def tS (k a : Nat) : Int32 := if k = 5 then nI 2 * (nI a - nI 100) else nI a - nI 100
def tL (k : Nat) : List Nat := if k = 5 then [14, 13, 10] else [13, 10]
def aZ (o k a f : Nat) : Int32 := if k = 2 then -zS o k a f else if ofK k 1 then zS o k a f else tS k a
def aZL (k : Nat) : List Nat := if k = 2 then 12 :: zL k else if ofK k 1 then zL k else tL k
def aM (o k a f : Nat) : Int32 := if ofK k 1 then mS o k f else nI o - tS k a
def aML (k : Nat) : List Nat := if ofK k 1 then mL k else [23, 20] ++ tL k
def fAsk (σ : Sg) (x w : Int32) : Int32 × Sg := if inN x (gT σ 1) && btw w 0 1 then
    (if w = nI 0 then (aZ x.toNatClampNeg (gT σ (20 + x.toNatClampNeg)) (gT σ (26 + x.toNatClampNeg)) (gT σ (32 + x.toNatClampNeg)), upK σ (aZL (gT σ (20 + x.toNatClampNeg))))
     else (aM x.toNatClampNeg (gT σ (20 + x.toNatClampNeg)) (gT σ (26 + x.toNatClampNeg)) (gT σ (32 + x.toNatClampNeg)), upK σ (aML (gT σ (20 + x.toNatClampNeg))))) else (kBAD, σ)
section DASK2
variable {G : Gt} {d : Nat} {h : Hp} {σ : Sg} {T : Tn}
theorem sp_isOfKind {k n : Nat} {K : Int32 → Hp → Prop} (hk1 : 1 ≤ k) (hk : k ≤ 5) (hn : n ≤ 5) (kk : K (bI (ofK k n)) h) : Call G d mX6_isOfKind [.int (nI k), .int (nI n)] h (pI K) := by
  refine Call.of (M := mX6_isOfKind) (n := 2) (by decide +kernel) rfl ?_
  show WP _ _ _ _ 0 [some (.int (nI k)), some (.int (nI n)), none, none] [] _
  have no : ∀ u, u ≤ 6 → ofK k n = false → WP G d mX6_isOfKind (pI K) 4 [some (.int (nI k)), some (.int (nI n)), some (.int kM1), some (.int (nI u))] [] h := by
    intro u hu q
    rw [q] at kk
    refine wp_iload_n (pc := 4) (i := 3) dX6_isOfKind_4 rfl rfl ?_
    refine wp_gst (pc := 5) fs_X6_324 dX6_isOfKind_5 ?_
    refine wp_tabn (pc := 8) dX6_isOfKind_8 ?_
    rotate_left
    rw [show (6 : Int32) = nI 6 from rfl]
    first | (with_reducible show WP _ _ _ _ _ _ (Value.int (nI _) :: Value.int (nI _) :: _) _; refine wp_icmp_geN (pc := 9) (tgt := 43) dX6_isOfKind_9 (by decide) (by omega) (by omega) (fun c9 => ?_) (fun c9 => ?_)) | refine wp_icmp_ge (pc := 9) (tgt := 43) dX6_isOfKind_9 (by decide) (fun c9 => ?_) (fun c9 => ?_)
    refine wp_iconst (pc := 43) (v := nI 0) dX6_isOfKind_43 rfl ?_
    refine wp_zret (pc := 44) dX6_isOfKind_44 rfl (by first | exact Or.inl rfl | exact Or.inr rfl | assumption | exact bI_01 _) ?_
    rotate_left
    rotate_left
    · exact kk
    refine wp_iload_n (pc := 12) (i := 2) dX6_isOfKind_12 rfl rfl ?_
    refine wp_if_lt (pc := 13) (tgt := 43) dX6_isOfKind_13 (by decide) (fun c13 => ?_) (fun c13 => absurd (by decide) c13)
    refine wp_iconst (pc := 43) (v := nI 0) dX6_isOfKind_43 rfl ?_
    refine wp_zret (pc := 44) dX6_isOfKind_44 rfl (by first | exact Or.inl rfl | exact Or.inr rfl | assumption | exact bI_01 _) ?_
    rotate_left
    exact kk
  have st : ∀ c u (p : Int32), c ≤ 5 → u ≤ 5 → kab c = .int p → (n = c → ofK k n = true) → (n ≠ c → WP G d mX6_isOfKind (pI K) 4 [some (.int (nI k)), some (.int (nI n)), some (.int p), some (.int (nI (u + 1)))] [] h) → WP G d mX6_isOfKind (pI K) 4 [some (.int (nI k)), some (.int (nI n)), some (.int (nI c)), some (.int (nI u))] [] h := by
    intro c u p hc hu hp h1 h2
    refine wp_iload_n (pc := 4) (i := 3) dX6_isOfKind_4 rfl rfl ?_
    refine wp_gst (pc := 5) fs_X6_324 dX6_isOfKind_5 ?_
    refine wp_tabn (pc := 8) dX6_isOfKind_8 ?_
    rotate_left
    rw [show (6 : Int32) = nI 6 from rfl]
    first | (with_reducible show WP _ _ _ _ _ _ (Value.int (nI _) :: Value.int (nI _) :: _) _; refine wp_icmp_geN (pc := 9) (tgt := 43) dX6_isOfKind_9 (by decide) (by omega) (by omega) (fun c9 => ?_) (fun c9 => ?_)) | refine wp_icmp_ge (pc := 9) (tgt := 43) dX6_isOfKind_9 (by decide) (fun c9 => ?_) (fun c9 => ?_)
    rotate_left
    refine wp_iload_n (pc := 12) (i := 2) dX6_isOfKind_12 rfl rfl ?_
    first | (with_reducible show WP _ _ _ _ _ _ (Value.int (nI _) :: _) _; refine wp_if_ltN (pc := 13) (tgt := 43) dX6_isOfKind_13 (by decide) (by omega) (fun c13 => ?_) (fun c13 => ?_)) | refine wp_if_lt (pc := 13) (tgt := 43) dX6_isOfKind_13 (by decide) (fun c13 => ?_) (fun c13 => ?_)
    rotate_left
    refine wp_iload_n (pc := 16) (i := 2) dX6_isOfKind_16 rfl rfl ?_
    refine wp_gst (pc := 17) fs_X6_324 dX6_isOfKind_17 ?_
    refine wp_tabn (pc := 20) dX6_isOfKind_20 ?_
    rotate_left
    · exact absurd c9 (by omega)
    · exact absurd c13 (by omega)
    rw [show (6 : Int32) = nI 6 from rfl]
    first | (with_reducible show WP _ _ _ _ _ _ (Value.int (nI _) :: Value.int (nI _) :: _) _; refine wp_icmp_geN (pc := 21) (tgt := 43) dX6_isOfKind_21 (by decide) (by omega) (by omega) (fun c21 => ?_) (fun c21 => ?_)) | refine wp_icmp_ge (pc := 21) (tgt := 43) dX6_isOfKind_21 (by decide) (fun c21 => ?_) (fun c21 => ?_)
    rotate_left
    refine wp_iload_n (pc := 24) (i := 2) dX6_isOfKind_24 rfl rfl ?_
    refine wp_iload_n (pc := 25) (i := 1) dX6_isOfKind_25 rfl rfl ?_
    first | (with_reducible show WP _ _ _ _ _ _ (Value.int (nI _) :: Value.int (nI _) :: _) _; refine wp_icmp_neN (pc := 26) (tgt := 31) dX6_isOfKind_26 (by decide) (by omega) (by omega) (fun c26 => ?_) (fun c26 => ?_)) | refine wp_icmp_ne (pc := 26) (tgt := 31) dX6_isOfKind_26 (by decide) (fun c26 => ?_) (fun c26 => ?_)
    rotate_left
    refine wp_iconst (pc := 29) (v := nI 1) dX6_isOfKind_29 rfl ?_
    refine wp_zret (pc := 30) dX6_isOfKind_30 rfl (by first | exact Or.inl rfl | exact Or.inr rfl | assumption | exact bI_01 _) ?_
    rotate_left
    · exact absurd c21 (by omega)
    · have h2 := h2 (fun q => c26 q.symm)
      have hin : vp_in (nI c) 6 := vp_in_nI (by omega) (by decide)
      have hp2 : kab (nI c).toNatClampNeg = .int p := by rw [nI_clamp (by omega)]; exact hp
      refine wp_gst (pc := 31) fs_X6_324 dX6_isOfKind_31 ?_
      refine wp_iload_n (pc := 34) (i := 2) dX6_isOfKind_34 rfl rfl ?_
      refine wp_tab (pc := 35) dX6_isOfKind_35 (by assumption) (by assumption) ?_
      refine wp_istore_n (pc := 36) (i := 2) dX6_isOfKind_36 rfl rfl (by decide) rfl ?_
      dsimp only [List.set_cons_zero, List.set_cons_succ]
      first | refine wp_iincN (pc := 37) (i := 3) (n := 1) dX6_isOfKind_37 rfl rfl (by decide) rfl ?_ | refine wp_iinc (pc := 37) (i := 3) dX6_isOfKind_37 rfl rfl rfl (by decide) rfl ?_
      dsimp only [List.set_cons_zero, List.set_cons_succ]
      refine wp_goto (pc := 40) (tgt := 4) dX6_isOfKind_40 (by decide) ?_
      rotate_left
      exact h2
    · rw [h1 c26.symm] at kk; exact kk
  have s0 : ∀ u, u ≤ 5 → (n = 0 → ofK k n = true) → (n ≠ 0 → ofK k n = false) → WP G d mX6_isOfKind (pI K) 4 [some (.int (nI k)), some (.int (nI n)), some (.int (nI 0)), some (.int (nI u))] [] h := fun u hu a b => st 0 u kM1 (by decide) hu rfl a (fun q => no (u + 1) (by omega) (b q))
  refine wp_iload_n (pc := 0) (i := 0) dX6_isOfKind_0 rfl rfl ?_
  refine wp_istore_n (pc := 1) (i := 2) dX6_isOfKind_1 rfl rfl (by decide) rfl ?_
  dsimp only [List.set_cons_zero, List.set_cons_succ]
  refine wp_iconst (pc := 2) (v := nI 0) dX6_isOfKind_2 rfl ?_
  refine wp_istore_n (pc := 3) (i := 3) dX6_isOfKind_3 rfl rfl (by decide) rfl ?_
  dsimp only [List.set_cons_zero, List.set_cons_succ]
  rotate_left
  rcases (show k = 1 ∨ k = 2 ∨ k = 3 ∨ k = 4 ∨ k = 5 by omega) with rfl | rfl | rfl | rfl | rfl
  · exact st 1 0 (nI 0) (by decide) (by decide) rfl (fun q => by rw [q]; decide) (fun q => s0 1 (by decide) (fun q => by rw [q]; decide) (fun q2 => decide_eq_false (by omega)))
  · exact st 2 0 (nI 1) (by decide) (by decide) rfl (fun q => by rw [q]; decide) (fun q => st 1 1 (nI 0) (by decide) (by decide) rfl (fun q => by rw [q]; decide) (fun q3 => s0 2 (by decide) (fun q => by rw [q]; decide) (fun q2 => decide_eq_false (by omega))))
  · exact st 3 0 (nI 1) (by decide) (by decide) rfl (fun q => by rw [q]; decide) (fun q => st 1 1 (nI 0) (by decide) (by decide) rfl (fun q => by rw [q]; decide) (fun q3 => s0 2 (by decide) (fun q => by rw [q]; decide) (fun q2 => decide_eq_false (by omega))))
  · exact st 4 0 (nI 0) (by decide) (by decide) rfl (fun q => by rw [q]; decide) (fun q => s0 1 (by decide) (fun q => by rw [q]; decide) (fun q2 => decide_eq_false (by omega)))
  · exact st 5 0 (nI 4) (by decide) (by decide) rfl (fun q => by rw [q]; decide) (fun q => st 4 1 (nI 0) (by decide) (by decide) rfl (fun q => by rw [q]; decide) (fun q3 => s0 2 (by decide) (fun q => by rw [q]; decide) (fun q2 => decide_eq_false (by omega))))
theorem sd_as {x n : Int32} {K : Int32 → Hp → Prop} (H : DI h σ) (hO : OKT (gT σ)) (k : ∀ h', DI h' (fAs σ x n).2 → RS h h' → K (fAs σ x n).1 h') : Call G (d + 2) mX6_as [.ref 0, .int x, .int n] h (pI K) := by
  have hW := H.1
  obtain ⟨e0, e1, e2, e3, e4, e5, e6, e7, e8, e9, e10, e11, e12, e13⟩ := id hW
  have e5 : ∀ q, q < (gT σ) 0 → h 28 q = nI ((gT σ) (5 + q)) := e5
  have e6 : ∀ q, q < (gT σ) 0 → h 29 q = nI ((gT σ) (10 + q)) := e6
  have e7 : ∀ q, q < (gT σ) 0 → h 30 q = nI ((gT σ) (15 + q)) := e7
  have e8 : ∀ q, q < (gT σ) 1 → h 31 q = nI ((gT σ) (20 + q)) := e8
  have e9 : ∀ q, q < (gT σ) 1 → h 32 q = nI ((gT σ) (26 + q)) := e9
  have e10 : ∀ q, q < (gT σ) 1 → h 33 q = nI ((gT σ) (32 + q)) := e10
  have e11 : ∀ q, q < (gT σ) 1 → h 34 q = nI ((gT σ) (38 + q)) := e11
  have e12 : ∀ q, q < (gT σ) 1 → h 35 q = nI ((gT σ) (44 + q)) := e12
  have e13 : ∀ q, q < (gT σ) 1 → h 36 q = nI ((gT σ) (50 + q)) := e13
  obtain ⟨o0, o1, o2, o3, o4, o5, o6, o7, o8⟩ := id hO
  refine Call.of (M := mX6_as) (n := 0) (by decide +kernel) rfl ?_
  show WP _ _ _ _ 0 [some (.ref 0), some (.int x), some (.int n)] [] _
  refine wp_aload_n (pc := 0) (i := 0) dX6_as_0 rfl rfl ?_
  refine wp_gfr (pc := 1) fk_X6_26 dX6_as_1 rfl rfl (by decide) ?_
  refine wp_iload_n (pc := 4) (i := 1) dX6_as_4 rfl rfl ?_
  refine wp_cV1i (pc := 5) lk_X6_168 dX6_as_5 rfl rfl rfl (sp_hasGran isT_27 hW hO ?_)
  first | (with_reducible show WP _ _ _ _ _ _ (Value.int (bI _) :: _) _; refine wp_if_eqB (pc := 8) (tgt := 20) dX6_as_8 (by decide) (fun c8 => ?_) (fun c8 => ?_)) | (with_reducible show WP _ _ _ _ _ _ (Value.int (nI _) :: _) _; refine wp_if_eqN (pc := 8) (tgt := 20) dX6_as_8 (by decide) (by omega) (fun c8 => ?_) (fun c8 => ?_)) | refine wp_if_eq (pc := 8) (tgt := 20) dX6_as_8 (by decide) (fun c8 => ?_) (fun c8 => ?_)
  refine wp_ldc (pc := 20) kn_X6_78 dX6_as_20 ?_
  refine wp_iret (pc := 22) dX6_as_22 rfl ?_
  rotate_left
  refine wp_iload_n (pc := 11) (i := 2) dX6_as_11 rfl rfl ?_
  refine wp_iconst (pc := 12) (v := nI 0) dX6_as_12 rfl ?_
  refine wp_iconst (pc := 13) (v := nI 5) dX6_as_13 rfl ?_
  refine wp_cS3i (pc := 14) lk_X6_74 dX6_as_14 rfl (sp_btw (by decide) (by decide) ?_)
  first | (with_reducible show WP _ _ _ _ _ _ (Value.int (bI _) :: _) _; refine wp_if_neB (pc := 17) (tgt := 23) dX6_as_17 (by decide) (fun c17 => ?_) (fun c17 => ?_)) | (with_reducible show WP _ _ _ _ _ _ (Value.int (nI _) :: _) _; refine wp_if_neN (pc := 17) (tgt := 23) dX6_as_17 (by decide) (by omega) (fun c17 => ?_) (fun c17 => ?_)) | refine wp_if_ne (pc := 17) (tgt := 23) dX6_as_17 (by decide) (fun c17 => ?_) (fun c17 => ?_)
  rotate_left
  refine wp_ldc (pc := 20) kn_X6_78 dX6_as_20 ?_
  refine wp_iret (pc := 22) dX6_as_22 rfl ?_
  rotate_left
  · rw [fAs, c8] at k; exact k h H RS.rf
  rotate_left
  · rw [fAs, c8, c17] at k; exact k h H RS.rf
  rw [fAs, c8, c17] at k
  obtain ⟨g, hg, rfl⟩ := inN_t (by omega) c8
  obtain ⟨m, -, hm, rfl⟩ := btw_t (by decide) c17
  rw [nI_clamp (show g < 2 ^ 31 by omega), nI_clamp (show m < 2 ^ 31 by omega)] at k
  have q1 := (o7 g hg).1
  refine wp_aload_n (pc := 23) (i := 0) dX6_as_23 rfl rfl ?_
  refine wp_gfr (pc := 24) fk_X6_26 dX6_as_24 rfl rfl (by decide) ?_
  refine wp_gfr (pc := 27) fk_X6_253 dX6_as_27 rfl rfl (by decide) ?_
  refine wp_iload_n (pc := 30) (i := 1) dX6_as_30 rfl rfl ?_
  first | (with_reducible show WP _ _ _ _ _ _ (Value.int (nI _) :: _) _; refine wp_ialdN (pc := 31) dX6_as_31 rfl (by omega) (by first | with_reducible assumption | with_reducible exact hs_same _ _ _ _ | with_reducible exact e8 _ (by omega) | rfl) ?_) | refine wp_iald (pc := 31) dX6_as_31 rfl (by assumption) rfl ?_
  refine wp_iload_n (pc := 32) (i := 2) dX6_as_32 rfl rfl ?_
  refine wp_cS2i (pc := 33) lk_X6_299 dX6_as_33 rfl (sp_isOfKind q1.1 q1.2 hm ?_)
  first | (with_reducible show WP _ _ _ _ _ _ (Value.int (bI _) :: _) _; refine wp_if_neB (pc := 36) (tgt := 45) dX6_as_36 (by decide) (fun c36 => ?_) (fun c36 => ?_)) | (with_reducible show WP _ _ _ _ _ _ (Value.int (nI _) :: _) _; refine wp_if_neN (pc := 36) (tgt := 45) dX6_as_36 (by decide) (by omega) (fun c36 => ?_) (fun c36 => ?_)) | refine wp_if_ne (pc := 36) (tgt := 45) dX6_as_36 (by decide) (fun c36 => ?_) (fun c36 => ?_)
  refine wp_aload_n (pc := 45) (i := 0) dX6_as_45 rfl rfl ?_
  refine wp_iconst (pc := 46) (v := nI 0) dX6_as_46 rfl ?_
  refine wp_pf (pc := 47) fp_X6_87 dX6_as_47 rfl rfl rfl rfl ?_
  refine wp_iload_n (pc := 50) (i := 1) dX6_as_50 rfl rfl ?_
  refine wp_iret (pc := 51) dX6_as_51 rfl ?_
  rotate_left
  refine wp_aload_n (pc := 39) (i := 0) dX6_as_39 rfl rfl ?_
  refine wp_iconst (pc := 40) (v := nI 3) dX6_as_40 rfl ?_
  refine wp_cV1i (pc := 41) lk_X6_79 dX6_as_41 rfl rfl rfl (sp_found ?_)
  refine wp_iret (pc := 44) dX6_as_44 rfl ?_
  rotate_left
  · rw [c36] at k; exact k _ H.st (fun a ha => hs_ne (by omega))
  · rw [c36] at k; exact k _ H.st (fun a ha => hs_ne (by omega))
/-- the one asked, and what began so far -/
def AK (h : Hp) (L : List Nat) (o k a f : Nat) : Prop := DK h L ∧ h 83 2 = nI o ∧ h 83 3 = nI k ∧ h 83 4 = nI a ∧ h 83 5 = nI f
def FY (h h' : Hp) : Prop := ∀ q, q ≠ 83 → q ≠ 84 → h' q = h q
theorem FY.tr {h1 h2 : Hp} (x : FY h h1) (y : FY h1 h2) : FY h h2 := fun q a b => (y q a b).trans (x q a b)
theorem FY.rf : FY h h := fun _ _ _ => rfl
variable {L : List Nat} {o k a f : Nat}
theorem sp_begin {n : Nat} {K : Hp → Prop} (hA : AK h L o k a f) (hL : L.length < 16) (kk : ∀ h', AK h' (L ++ [n]) o k a f → FY h h' → K h') : Call G d mX1_begin [.ref 83, .int (nI n)] h (pV K) := by
  obtain ⟨⟨a1, a2⟩, a3, a4, a5, a6⟩ := hA
  refine Call.of (M := mX1_begin) (n := 0) (by decide +kernel) rfl ?_
  show WP _ _ _ _ 0 [some (.ref 83), some (.int (nI n))] [] _
  refine wp_aload_n (pc := 0) (i := 0) dX1_begin_0 rfl rfl ?_
  refine wp_gfv (pc := 1) fk_X1_15 dX1_begin_1 rfl rfl (by first | with_reducible assumption | with_reducible exact hs_same _ _ _ _ | rfl) ?_
  refine wp_bipush (pc := 4) (v := nI 16) dX1_begin_4 rfl ?_
  first | (with_reducible show WP _ _ _ _ _ _ (Value.int (nI _) :: Value.int (nI _) :: _) _; refine wp_icmp_geN (pc := 6) (tgt := 26) dX1_begin_6 (by decide) (by omega) (by omega) (fun c6 => ?_) (fun c6 => ?_)) | refine wp_icmp_ge (pc := 6) (tgt := 26) dX1_begin_6 (by decide) (fun c6 => ?_) (fun c6 => ?_)
  rotate_left
  refine wp_aload_n (pc := 9) (i := 0) dX1_begin_9 rfl rfl ?_
  refine wp_gfr (pc := 10) fk_X1_9 dX1_begin_10 rfl rfl (by decide) ?_
  refine wp_aload_n (pc := 13) (i := 0) dX1_begin_13 rfl rfl ?_
  refine wp_dup (pc := 14) dX1_begin_14 rfl ?_
  refine wp_gfv (pc := 15) fk_X1_15 dX1_begin_15 rfl rfl (by first | with_reducible assumption | with_reducible exact hs_same _ _ _ _ | rfl) ?_
  refine wp_dup_x1 (pc := 18) dX1_begin_18 rfl rfl ?_
  refine wp_iconst (pc := 19) (v := nI 1) dX1_begin_19 rfl ?_
  first | (with_reducible show WP _ _ _ _ _ _ (Value.int (nI _) :: Value.int (nI _) :: _) _; refine wp_iaddN (pc := 20) dX1_begin_20 ?_) | refine wp_iadd (pc := 20) dX1_begin_20 ?_
  refine wp_pf (pc := 21) fp_X1_15 dX1_begin_21 rfl rfl rfl rfl ?_
  refine wp_iload_n (pc := 24) (i := 1) dX1_begin_24 rfl rfl ?_
  first | (with_reducible show WP _ _ _ _ _ _ (_ :: Value.int (nI _) :: _) _; refine wp_iastN (pc := 25) dX1_begin_25 rfl (by omega) ?_) | refine wp_iast (pc := 25) dX1_begin_25 rfl (by assumption) rfl ?_
  rotate_left
  · exact absurd c6 (by omega)
  refine wp_vret (pc := 26) dX1_begin_26 rfl ?_
  rotate_left
  refine kk _ ⟨⟨?_, fun i b hb => ?_⟩, ?_, ?_, ?_, ?_⟩ (fun q h1 h2 => by rw [hs_ne h2, hs_ne h1])
  · rw [hs_ne (by decide), hs_same, List.length_append]; rfl
  · by_cases z : i < L.length
    · rw [List.getElem?_append_left z] at hb
      rw [hs_ix (by omega), hs_ne (by decide)]; exact a2 i b hb
    · rw [List.getElem?_append_right (by omega)] at hb
      have : i - L.length < 1 := (List.getElem?_eq_some_iff.mp hb).1
      rw [show i - L.length = 0 by omega] at hb
      cases hb
      rw [show i = L.length by omega, hs_same]
  all_goals rw [hs_ne (by decide), hs_ix (by decide)]; assumption
theorem sp_markLent {K : Int32 → Hp → Prop} (hA : AK h L o k a f) (hL : L.length + 1 ≤ 16) (kk : ∀ h', AK h' (L ++ [20]) o k a f → FY h h' → K (nI o) h') : Call G (d + 1) mX1_markLent [.ref 83] h (pI K) := by
  refine Call.of (M := mX1_markLent) (n := 0) (by decide +kernel) rfl ?_
  show WP _ _ _ _ 0 [some (.ref 83)] [] _
  refine wp_aload_n (pc := 0) (i := 0) dX1_markLent_0 rfl rfl ?_
  refine wp_bipush (pc := 1) (v := nI 20) dX1_markLent_1 rfl ?_
  refine wp_cV1v (pc := 3) lk_X1_40 dX1_markLent_3 rfl rfl rfl (sp_begin hA (by omega) (fun h1 hA1 hf1 => ?_))
  rotate_left
  have e := hA1.2.1
  refine wp_aload_n (pc := 6) (i := 0) dX1_markLent_6 rfl rfl ?_
  refine wp_gfv (pc := 7) fk_X1_19 dX1_markLent_7 rfl rfl (by first | with_reducible assumption | with_reducible exact hs_same _ _ _ _ | rfl) ?_
  refine wp_iret (pc := 10) dX1_markLent_10 rfl ?_
  rotate_left
  exact kk h1 hA1 hf1
theorem sp_sizeLent {K : Int32 → Hp → Prop} (hA : AK h L o k a f) (hL : L.length + 1 ≤ 16) (kk : ∀ h', AK h' (L ++ [10]) o k a f → FY h h' → K (nI a) h') : Call G (d + 1) mX1_sizeLent [.ref 83] h (pI K) := by
  refine Call.of (M := mX1_sizeLent) (n := 0) (by decide +kernel) rfl ?_
  show WP _ _ _ _ 0 [some (.ref 83)] [] _
  refine wp_aload_n (pc := 0) (i := 0) dX1_sizeLent_0 rfl rfl ?_
  refine wp_bipush (pc := 1) (v := nI 10) dX1_sizeLent_1 rfl ?_
  refine wp_cV1v (pc := 3) lk_X1_40 dX1_sizeLent_3 rfl rfl rfl (sp_begin hA (by omega) (fun h1 hA1 hf1 => ?_))
  rotate_left
  have e := hA1.2.2.2.1
  refine wp_aload_n (pc := 6) (i := 0) dX1_sizeLent_6 rfl rfl ?_
  refine wp_gfv (pc := 7) fk_X1_33 dX1_sizeLent_7 rfl rfl (by first | with_reducible assumption | with_reducible exact hs_same _ _ _ _ | rfl) ?_
  refine wp_iret (pc := 10) dX1_sizeLent_10 rfl ?_
  rotate_left
  exact kk h1 hA1 hf1
theorem sp_markOfAnySoup {K : Int32 → Hp → Prop} (hA : AK h L o k a f) (hL : L.length + 2 ≤ 16) (kk : ∀ h', AK h' (L ++ [21, 20]) o k a f → FY h h' → K (nI (o + f)) h') : Call G (d + 2) mX1_markOfAnySoup [.ref 83] h (pI K) := by
  refine Call.of (M := mX1_markOfAnySoup) (n := 0) (by decide +kernel) rfl ?_
  show WP _ _ _ _ 0 [some (.ref 83)] [] _
  refine wp_aload_n (pc := 0) (i := 0) dX1_markOfAnySoup_0 rfl rfl ?_
  refine wp_bipush (pc := 1) (v := nI 21) dX1_markOfAnySoup_1 rfl ?_
  refine wp_cV1v (pc := 3) lk_X1_40 dX1_markOfAnySoup_3 rfl rfl rfl (sp_begin hA (by omega) (fun h1 hA1 hf1 => ?_))
  rotate_left
  have l1 : (L ++ [21]).length = L.length + 1 := by simp
  refine wp_aload_n (pc := 6) (i := 0) dX1_markOfAnySoup_6 rfl rfl ?_
  refine wp_cV0i (pc := 7) lk_X1_70 dX1_markOfAnySoup_7 rfl rfl rfl (sp_markLent hA1 (by omega) (fun h2 hA2 hf2 => ?_))
  rotate_left
  have e := hA2.2.2.2.2
  refine wp_aload_n (pc := 10) (i := 0) dX1_markOfAnySoup_10 rfl rfl ?_
  refine wp_gfv (pc := 11) fk_X1_38 dX1_markOfAnySoup_11 rfl rfl (by first | with_reducible assumption | with_reducible exact hs_same _ _ _ _ | rfl) ?_
  first | (with_reducible show WP _ _ _ _ _ _ (Value.int (nI _) :: Value.int (nI _) :: _) _; refine wp_iaddN (pc := 14) dX1_markOfAnySoup_14 ?_) | refine wp_iadd (pc := 14) dX1_markOfAnySoup_14 ?_
  refine wp_iret (pc := 15) dX1_markOfAnySoup_15 rfl ?_
  rotate_left
  rw [List.append_assoc] at hA2
  exact kk h2 hA2 (hf1.tr hf2)
theorem sp_markOfSoup {K : Int32 → Hp → Prop} (hA : AK h L o k a f) (hk : k ≤ 5) (hof : o + f ≤ 100) (hL : L.length + 3 ≤ 16) (kk : ∀ h', AK h' (L ++ mL k) o k a f → FY h h' → K (mS o k f) h') : Call G (d + 3) mX1_markOfSoup [.ref 83] h (pI K) := by
  have e := hA.2.2.1
  refine Call.of (M := mX1_markOfSoup) (n := 0) (by decide +kernel) rfl ?_
  show WP _ _ _ _ 0 [some (.ref 83)] [] _
  by_cases z3 : k = 3
  · rw [mL, mS, if_pos z3, if_pos z3] at kk
    refine wp_aload_n (pc := 0) (i := 0) dX1_markOfSoup_0 rfl rfl ?_
    refine wp_gfv (pc := 1) fk_X1_27 dX1_markOfSoup_1 rfl rfl (by first | with_reducible assumption | with_reducible exact hs_same _ _ _ _ | rfl) ?_
    refine wp_iconst (pc := 4) (v := nI 3) dX1_markOfSoup_4 rfl ?_
    first | (with_reducible show WP _ _ _ _ _ _ (Value.int (nI _) :: Value.int (nI _) :: _) _; refine wp_icmp_neN (pc := 5) (tgt := 23) dX1_markOfSoup_5 (by decide) (by omega) (by omega) (fun c5 => ?_) (fun c5 => ?_)) | refine wp_icmp_ne (pc := 5) (tgt := 23) dX1_markOfSoup_5 (by decide) (fun c5 => ?_) (fun c5 => ?_)
    rotate_left
    refine wp_aload_n (pc := 8) (i := 0) dX1_markOfSoup_8 rfl rfl ?_
    refine wp_bipush (pc := 9) (v := nI 22) dX1_markOfSoup_9 rfl ?_
    refine wp_cV1v (pc := 11) lk_X1_40 dX1_markOfSoup_11 rfl rfl rfl (sp_begin hA (by omega) (fun h1 hA1 hf1 => ?_))
    rotate_left
    · exact absurd z3 c5
    have l1 : (L ++ [22]).length = L.length + 1 := by simp
    refine wp_aload_n (pc := 14) (i := 0) dX1_markOfSoup_14 rfl rfl ?_
    refine wp_cV0i (pc := 15) lk_X1_67 dX1_markOfSoup_15 rfl rfl rfl (sp_markOfAnySoup hA1 (by omega) (fun h2 hA2 hf2 => ?_))
    refine wp_sipush (pc := 18) (v := nI 1000) dX1_markOfSoup_18 rfl ?_
    first | (with_reducible show WP _ _ _ _ _ _ (Value.int (nI _) :: Value.int (nI _) :: _) _; refine wp_isubN (pc := 21) dX1_markOfSoup_21 (by omega) ?_) | refine wp_isub (pc := 21) dX1_markOfSoup_21 ?_
    refine wp_iret (pc := 22) dX1_markOfSoup_22 rfl ?_
    rotate_left
    rw [List.append_assoc] at hA2
    exact kk h2 hA2 (hf1.tr hf2)
  rw [mL, mS, if_neg z3, if_neg z3] at kk
  by_cases z2 : k = 2
  · rw [if_pos z2, if_pos z2] at kk
    refine wp_aload_n (pc := 0) (i := 0) dX1_markOfSoup_0 rfl rfl ?_
    refine wp_gfv (pc := 1) fk_X1_27 dX1_markOfSoup_1 rfl rfl (by first | with_reducible assumption | with_reducible exact hs_same _ _ _ _ | rfl) ?_
    refine wp_iconst (pc := 4) (v := nI 3) dX1_markOfSoup_4 rfl ?_
    first | (with_reducible show WP _ _ _ _ _ _ (Value.int (nI _) :: Value.int (nI _) :: _) _; refine wp_icmp_neN (pc := 5) (tgt := 23) dX1_markOfSoup_5 (by decide) (by omega) (by omega) (fun c5 => ?_) (fun c5 => ?_)) | refine wp_icmp_ne (pc := 5) (tgt := 23) dX1_markOfSoup_5 (by decide) (fun c5 => ?_) (fun c5 => ?_)
    refine wp_aload_n (pc := 23) (i := 0) dX1_markOfSoup_23 rfl rfl ?_
    refine wp_gfv (pc := 24) fk_X1_27 dX1_markOfSoup_24 rfl rfl (by first | with_reducible assumption | with_reducible exact hs_same _ _ _ _ | rfl) ?_
    refine wp_iconst (pc := 27) (v := nI 2) dX1_markOfSoup_27 rfl ?_
    first | (with_reducible show WP _ _ _ _ _ _ (Value.int (nI _) :: Value.int (nI _) :: _) _; refine wp_icmp_neN (pc := 28) (tgt := 44) dX1_markOfSoup_28 (by decide) (by omega) (by omega) (fun c28 => ?_) (fun c28 => ?_)) | refine wp_icmp_ne (pc := 28) (tgt := 44) dX1_markOfSoup_28 (by decide) (fun c28 => ?_) (fun c28 => ?_)
    rotate_left
    refine wp_aload_n (pc := 31) (i := 0) dX1_markOfSoup_31 rfl rfl ?_
    refine wp_bipush (pc := 32) (v := nI 24) dX1_markOfSoup_32 rfl ?_
    refine wp_cV1v (pc := 34) lk_X1_40 dX1_markOfSoup_34 rfl rfl rfl (sp_begin hA (by omega) (fun h1 hA1 hf1 => ?_))
    rotate_left
    rotate_left
    · exact absurd z2 c28
    · have l1 : (L ++ [24]).length = L.length + 1 := by simp
      refine wp_iconst (pc := 37) (v := nI 2) dX1_markOfSoup_37 rfl ?_
      refine wp_aload_n (pc := 38) (i := 0) dX1_markOfSoup_38 rfl rfl ?_
      refine wp_cV0i (pc := 39) lk_X1_67 dX1_markOfSoup_39 rfl rfl rfl (sp_markOfAnySoup hA1 (by omega) (fun h2 hA2 hf2 => ?_))
      first | (with_reducible show WP _ _ _ _ _ _ (Value.int (nI _) :: Value.int (nI _) :: _) _; refine wp_imulN (pc := 42) dX1_markOfSoup_42 ?_) | refine wp_imul (pc := 42) dX1_markOfSoup_42 ?_
      refine wp_iret (pc := 43) dX1_markOfSoup_43 rfl ?_
      rotate_left
      rw [List.append_assoc] at hA2
      exact kk h2 hA2 (hf1.tr hf2)
    · exact absurd c5 z3
  rw [if_neg z2, if_neg z2] at kk
  refine wp_aload_n (pc := 0) (i := 0) dX1_markOfSoup_0 rfl rfl ?_
  refine wp_gfv (pc := 1) fk_X1_27 dX1_markOfSoup_1 rfl rfl (by first | with_reducible assumption | with_reducible exact hs_same _ _ _ _ | rfl) ?_
  refine wp_iconst (pc := 4) (v := nI 3) dX1_markOfSoup_4 rfl ?_
  first | (with_reducible show WP _ _ _ _ _ _ (Value.int (nI _) :: Value.int (nI _) :: _) _; refine wp_icmp_neN (pc := 5) (tgt := 23) dX1_markOfSoup_5 (by decide) (by omega) (by omega) (fun c5 => ?_) (fun c5 => ?_)) | refine wp_icmp_ne (pc := 5) (tgt := 23) dX1_markOfSoup_5 (by decide) (fun c5 => ?_) (fun c5 => ?_)
  refine wp_aload_n (pc := 23) (i := 0) dX1_markOfSoup_23 rfl rfl ?_
  refine wp_gfv (pc := 24) fk_X1_27 dX1_markOfSoup_24 rfl rfl (by first | with_reducible assumption | with_reducible exact hs_same _ _ _ _ | rfl) ?_
  refine wp_iconst (pc := 27) (v := nI 2) dX1_markOfSoup_27 rfl ?_
  first | (with_reducible show WP _ _ _ _ _ _ (Value.int (nI _) :: Value.int (nI _) :: _) _; refine wp_icmp_neN (pc := 28) (tgt := 44) dX1_markOfSoup_28 (by decide) (by omega) (by omega) (fun c28 => ?_) (fun c28 => ?_)) | refine wp_icmp_ne (pc := 28) (tgt := 44) dX1_markOfSoup_28 (by decide) (fun c28 => ?_) (fun c28 => ?_)
  refine wp_aload_n (pc := 44) (i := 0) dX1_markOfSoup_44 rfl rfl ?_
  refine wp_cV0i (pc := 45) lk_X1_67 dX1_markOfSoup_45 rfl rfl rfl (sp_markOfAnySoup hA (by omega) (fun h2 hA2 hf2 => ?_))
  refine wp_iret (pc := 48) dX1_markOfSoup_48 rfl ?_
  rotate_left
  rotate_left
  rotate_left
  · exact kk h2 hA2 hf2
  · exact absurd c28 z2
  · exact absurd c5 z3
theorem mL_len (k : Nat) : (mL k).length ≤ 3 := by unfold mL; split; · decide
                                                   · split <;> decide
theorem sp_sizeOfSoup {K : Int32 → Hp → Prop} (hA : AK h L o k a f) (hk : k ≤ 5) (hof : o + f ≤ 100) (hL : L.length + 5 ≤ 16) (kk : ∀ h', AK h' (L ++ zL k) o k a f → FY h h' → K (zS o k a f) h') : Call G (d + 4) mX1_sizeOfSoup [.ref 83] h (pI K) := by
  refine Call.of (M := mX1_sizeOfSoup) (n := 0) (by decide +kernel) rfl ?_
  show WP _ _ _ _ 0 [some (.ref 83)] [] _
  have l1 : (L ++ [11]).length = L.length + 1 := by simp
  have l2 : ((L ++ [11]) ++ [10]).length = L.length + 2 := by simp
  refine wp_aload_n (pc := 0) (i := 0) dX1_sizeOfSoup_0 rfl rfl ?_
  refine wp_bipush (pc := 1) (v := nI 11) dX1_sizeOfSoup_1 rfl ?_
  refine wp_cV1v (pc := 3) lk_X1_40 dX1_sizeOfSoup_3 rfl rfl rfl (sp_begin hA (by omega) (fun h1 hA1 hf1 => ?_))
  refine wp_aload_n (pc := 6) (i := 0) dX1_sizeOfSoup_6 rfl rfl ?_
  refine wp_cV0i (pc := 7) lk_X1_61 dX1_sizeOfSoup_7 rfl rfl rfl (sp_sizeLent hA1 (by omega) (fun h2 hA2 hf2 => ?_))
  refine wp_aload_n (pc := 10) (i := 0) dX1_sizeOfSoup_10 rfl rfl ?_
  refine wp_cV0i (pc := 11) lk_X1_55 dX1_sizeOfSoup_11 rfl rfl rfl (sp_markOfSoup hA2 hk hof (by omega) (fun h3 hA3 hf3 => ?_))
  rotate_left
  refine wp_iadd (pc := 14) dX1_sizeOfSoup_14 ?_
  refine wp_iret (pc := 15) dX1_sizeOfSoup_15 rfl ?_
  rotate_left
  rw [List.append_assoc, List.append_assoc] at hA3
  exact kk h3 hA3 ((hf1.tr hf2).tr hf3)
theorem sp_sizeOfAnyStern {K : Int32 → Hp → Prop} (hA : AK h L o k a f) (ha : a ≤ 9) (hL : L.length + 2 ≤ 16) (kk : ∀ h', AK h' (L ++ [13, 10]) o k a f → FY h h' → K (nI a - nI 100) h') : Call G (d + 2) mX1_sizeOfAnyStern [.ref 83] h (pI K) := by
  refine Call.of (M := mX1_sizeOfAnyStern) (n := 0) (by decide +kernel) rfl ?_
  show WP _ _ _ _ 0 [some (.ref 83)] [] _
  have l1 : (L ++ [13]).length = L.length + 1 := by simp
  refine wp_aload_n (pc := 0) (i := 0) dX1_sizeOfAnyStern_0 rfl rfl ?_
  refine wp_bipush (pc := 1) (v := nI 13) dX1_sizeOfAnyStern_1 rfl ?_
  refine wp_cV1v (pc := 3) lk_X1_40 dX1_sizeOfAnyStern_3 rfl rfl rfl (sp_begin hA (by omega) (fun h1 hA1 hf1 => ?_))
  refine wp_aload_n (pc := 6) (i := 0) dX1_sizeOfAnyStern_6 rfl rfl ?_
  refine wp_cV0i (pc := 7) lk_X1_61 dX1_sizeOfAnyStern_7 rfl rfl rfl (sp_sizeLent hA1 (by omega) (fun h2 hA2 hf2 => ?_))
  refine wp_bipush (pc := 10) (v := nI 100) dX1_sizeOfAnyStern_10 rfl ?_
  first | (with_reducible show WP _ _ _ _ _ _ (Value.int (nI _) :: Value.int (nI _) :: _) _; refine wp_isubN (pc := 12) dX1_sizeOfAnyStern_12 (by omega) ?_) | refine wp_isub (pc := 12) dX1_sizeOfAnyStern_12 ?_
  refine wp_iret (pc := 13) dX1_sizeOfAnyStern_13 rfl ?_
  rotate_left
  rw [List.append_assoc] at hA2
  exact kk h2 hA2 (hf1.tr hf2)
theorem sp_sizeOfStern {K : Int32 → Hp → Prop} (hA : AK h L o k a f) (hk : k ≤ 5) (ha : a ≤ 9) (hL : L.length + 3 ≤ 16) (kk : ∀ h', AK h' (L ++ tL k) o k a f → FY h h' → K (tS k a) h') : Call G (d + 3) mX1_sizeOfStern [.ref 83] h (pI K) := by
  have e := hA.2.2.1
  have l1 : (L ++ [14]).length = L.length + 1 := by simp
  refine Call.of (M := mX1_sizeOfStern) (n := 0) (by decide +kernel) rfl ?_
  show WP _ _ _ _ 0 [some (.ref 83)] [] _
  by_cases z : k = 5
  · rw [tL, tS, if_pos z, if_pos z] at kk
    refine wp_aload_n (pc := 0) (i := 0) dX1_sizeOfStern_0 rfl rfl ?_
    refine wp_gfv (pc := 1) fk_X1_27 dX1_sizeOfStern_1 rfl rfl (by first | with_reducible assumption | with_reducible exact hs_same _ _ _ _ | rfl) ?_
    refine wp_iconst (pc := 4) (v := nI 5) dX1_sizeOfStern_4 rfl ?_
    first | (with_reducible show WP _ _ _ _ _ _ (Value.int (nI _) :: Value.int (nI _) :: _) _; refine wp_icmp_neN (pc := 5) (tgt := 21) dX1_sizeOfStern_5 (by decide) (by omega) (by omega) (fun c5 => ?_) (fun c5 => ?_)) | refine wp_icmp_ne (pc := 5) (tgt := 21) dX1_sizeOfStern_5 (by decide) (fun c5 => ?_) (fun c5 => ?_)
    rotate_left
    refine wp_aload_n (pc := 8) (i := 0) dX1_sizeOfStern_8 rfl rfl ?_
    refine wp_bipush (pc := 9) (v := nI 14) dX1_sizeOfStern_9 rfl ?_
    refine wp_cV1v (pc := 11) lk_X1_40 dX1_sizeOfStern_11 rfl rfl rfl (sp_begin hA (by omega) (fun h1 hA1 hf1 => ?_))
    refine wp_iconst (pc := 14) (v := nI 2) dX1_sizeOfStern_14 rfl ?_
    refine wp_aload_n (pc := 15) (i := 0) dX1_sizeOfStern_15 rfl rfl ?_
    refine wp_cV0i (pc := 16) lk_X1_64 dX1_sizeOfStern_16 rfl rfl rfl (sp_sizeOfAnyStern hA1 ha (by omega) (fun h2 hA2 hf2 => ?_))
    first | (with_reducible show WP _ _ _ _ _ _ (Value.int (nI _) :: Value.int (nI _) :: _) _; refine wp_imulN (pc := 19) dX1_sizeOfStern_19 ?_) | refine wp_imul (pc := 19) dX1_sizeOfStern_19 ?_
    refine wp_iret (pc := 20) dX1_sizeOfStern_20 rfl ?_
    rotate_left
    · exact absurd z c5
    rw [List.append_assoc] at hA2
    exact kk h2 hA2 (hf1.tr hf2)
  rw [tL, tS, if_neg z, if_neg z] at kk
  refine wp_aload_n (pc := 0) (i := 0) dX1_sizeOfStern_0 rfl rfl ?_
  refine wp_gfv (pc := 1) fk_X1_27 dX1_sizeOfStern_1 rfl rfl (by first | with_reducible assumption | with_reducible exact hs_same _ _ _ _ | rfl) ?_
  refine wp_iconst (pc := 4) (v := nI 5) dX1_sizeOfStern_4 rfl ?_
  first | (with_reducible show WP _ _ _ _ _ _ (Value.int (nI _) :: Value.int (nI _) :: _) _; refine wp_icmp_neN (pc := 5) (tgt := 21) dX1_sizeOfStern_5 (by decide) (by omega) (by omega) (fun c5 => ?_) (fun c5 => ?_)) | refine wp_icmp_ne (pc := 5) (tgt := 21) dX1_sizeOfStern_5 (by decide) (fun c5 => ?_) (fun c5 => ?_)
  refine wp_aload_n (pc := 21) (i := 0) dX1_sizeOfStern_21 rfl rfl ?_
  refine wp_cV0i (pc := 22) lk_X1_64 dX1_sizeOfStern_22 rfl rfl rfl (sp_sizeOfAnyStern hA ha (by omega) (fun h2 hA2 hf2 => ?_))
  refine wp_iret (pc := 25) dX1_sizeOfStern_25 rfl ?_
  rotate_left
  rotate_left
  · exact kk h2 hA2 hf2
  · exact absurd c5 z
theorem sp_sizeAsked {K : Int32 → Hp → Prop} (hA : AK h [] o k a f) (hk1 : 1 ≤ k) (hk : k ≤ 5) (hof : o + f ≤ 100) (ha : a ≤ 9) (kk : ∀ h', AK h' (aZL k) o k a f → FY h h' → K (aZ o k a f) h') : Call G (d + 5) mX1_sizeAsked [.ref 83] h (pI K) := by
  have e := hA.2.2.1
  have l1 : (([] : List Nat) ++ [12]).length = 1 := by simp
  have l0 : ([] : List Nat).length = 0 := rfl
  refine Call.of (M := mX1_sizeAsked) (n := 0) (by decide +kernel) rfl ?_
  show WP _ _ _ _ 0 [some (.ref 83)] [] _
  by_cases z : k = 2
  · rw [aZL, aZ, if_pos z, if_pos z] at kk
    refine wp_aload_n (pc := 0) (i := 0) dX1_sizeAsked_0 rfl rfl ?_
    refine wp_gfv (pc := 1) fk_X1_27 dX1_sizeAsked_1 rfl rfl (by first | with_reducible assumption | with_reducible exact hs_same _ _ _ _ | rfl) ?_
    refine wp_iconst (pc := 4) (v := nI 2) dX1_sizeAsked_4 rfl ?_
    first | (with_reducible show WP _ _ _ _ _ _ (Value.int (nI _) :: Value.int (nI _) :: _) _; refine wp_icmp_neN (pc := 5) (tgt := 20) dX1_sizeAsked_5 (by decide) (by omega) (by omega) (fun c5 => ?_) (fun c5 => ?_)) | refine wp_icmp_ne (pc := 5) (tgt := 20) dX1_sizeAsked_5 (by decide) (fun c5 => ?_) (fun c5 => ?_)
    rotate_left
    refine wp_aload_n (pc := 8) (i := 0) dX1_sizeAsked_8 rfl rfl ?_
    refine wp_bipush (pc := 9) (v := nI 12) dX1_sizeAsked_9 rfl ?_
    refine wp_cV1v (pc := 11) lk_X1_40 dX1_sizeAsked_11 rfl rfl rfl (sp_begin hA (by decide) (fun h1 hA1 hf1 => ?_))
    refine wp_aload_n (pc := 14) (i := 0) dX1_sizeAsked_14 rfl rfl ?_
    refine wp_cV0i (pc := 15) lk_X1_44 dX1_sizeAsked_15 rfl rfl rfl (sp_sizeOfSoup hA1 hk hof (by omega) (fun h2 hA2 hf2 => ?_))
    refine wp_ineg (pc := 18) dX1_sizeAsked_18 ?_
    refine wp_iret (pc := 19) dX1_sizeAsked_19 rfl ?_
    rotate_left
    · exact absurd z c5
    exact kk h2 hA2 (hf1.tr hf2)
  rw [aZL, aZ, if_neg z, if_neg z] at kk
  refine wp_aload_n (pc := 0) (i := 0) dX1_sizeAsked_0 rfl rfl ?_
  refine wp_gfv (pc := 1) fk_X1_27 dX1_sizeAsked_1 rfl rfl (by first | with_reducible assumption | with_reducible exact hs_same _ _ _ _ | rfl) ?_
  refine wp_iconst (pc := 4) (v := nI 2) dX1_sizeAsked_4 rfl ?_
  first | (with_reducible show WP _ _ _ _ _ _ (Value.int (nI _) :: Value.int (nI _) :: _) _; refine wp_icmp_neN (pc := 5) (tgt := 20) dX1_sizeAsked_5 (by decide) (by omega) (by omega) (fun c5 => ?_) (fun c5 => ?_)) | refine wp_icmp_ne (pc := 5) (tgt := 20) dX1_sizeAsked_5 (by decide) (fun c5 => ?_) (fun c5 => ?_)
  refine wp_aload_n (pc := 20) (i := 0) dX1_sizeAsked_20 rfl rfl ?_
  refine wp_gfv (pc := 21) fk_X1_27 dX1_sizeAsked_21 rfl rfl (by first | with_reducible assumption | with_reducible exact hs_same _ _ _ _ | rfl) ?_
  refine wp_iconst (pc := 24) (v := nI 1) dX1_sizeAsked_24 rfl ?_
  refine wp_cS2i (pc := 25) lk_X1_48 dX1_sizeAsked_25 rfl (sp_isOfKind hk1 hk (by omega) ?_)
  first | (with_reducible show WP _ _ _ _ _ _ (Value.int (bI _) :: _) _; refine wp_if_eqB (pc := 28) (tgt := 38) dX1_sizeAsked_28 (by decide) (fun c28 => ?_) (fun c28 => ?_)) | (with_reducible show WP _ _ _ _ _ _ (Value.int (nI _) :: _) _; refine wp_if_eqN (pc := 28) (tgt := 38) dX1_sizeAsked_28 (by decide) (by omega) (fun c28 => ?_) (fun c28 => ?_)) | refine wp_if_eq (pc := 28) (tgt := 38) dX1_sizeAsked_28 (by decide) (fun c28 => ?_) (fun c28 => ?_)
  refine wp_aload_n (pc := 38) (i := 0) dX1_sizeAsked_38 rfl rfl ?_
  refine wp_cV0i (pc := 39) lk_X1_52 dX1_sizeAsked_39 rfl rfl rfl (sp_sizeOfStern hA hk ha (by omega) (fun h2 hA2 hf2 => ?_))
  refine wp_iret (pc := 42) dX1_sizeAsked_42 rfl ?_
  rotate_left
  refine wp_aload_n (pc := 31) (i := 0) dX1_sizeAsked_31 rfl rfl ?_
  refine wp_cV0i (pc := 32) lk_X1_44 dX1_sizeAsked_32 rfl rfl rfl (sp_sizeOfSoup hA hk hof (by omega) (fun h2 hA2 hf2 => ?_))
  refine wp_goto (pc := 35) (tgt := 42) dX1_sizeAsked_35 (by decide) ?_
  refine wp_iret (pc := 42) dX1_sizeAsked_42 rfl ?_
  rotate_left
  rotate_left
  · rw [c28] at kk; exact kk h2 hA2 hf2
  · rw [c28] at kk; exact kk h2 hA2 hf2
  · exact absurd c5 z
theorem sp_markOfStern {K : Int32 → Hp → Prop} (hA : AK h [] o k a f) (hk : k ≤ 5) (ha : a ≤ 9) (kk : ∀ h', AK h' ([23, 20] ++ tL k) o k a f → FY h h' → K (nI o - tS k a) h') : Call G (d + 4) mX1_markOfStern [.ref 83] h (pI K) := by
  refine Call.of (M := mX1_markOfStern) (n := 0) (by decide +kernel) rfl ?_
  show WP _ _ _ _ 0 [some (.ref 83)] [] _
  refine wp_aload_n (pc := 0) (i := 0) dX1_markOfStern_0 rfl rfl ?_
  refine wp_bipush (pc := 1) (v := nI 23) dX1_markOfStern_1 rfl ?_
  refine wp_cV1v (pc := 3) lk_X1_40 dX1_markOfStern_3 rfl rfl rfl (sp_begin hA (by decide) (fun h1 hA1 hf1 => ?_))
  refine wp_aload_n (pc := 6) (i := 0) dX1_markOfStern_6 rfl rfl ?_
  refine wp_cV0i (pc := 7) lk_X1_70 dX1_markOfStern_7 rfl rfl rfl (sp_markLent hA1 (by decide) (fun h2 hA2 hf2 => ?_))
  refine wp_aload_n (pc := 10) (i := 0) dX1_markOfStern_10 rfl rfl ?_
  refine wp_cV0i (pc := 11) lk_X1_52 dX1_markOfStern_11 rfl rfl rfl (sp_sizeOfStern hA2 hk ha (by decide) (fun h3 hA3 hf3 => ?_))
  rotate_left
  refine wp_isub (pc := 14) dX1_markOfStern_14 ?_
  refine wp_iret (pc := 15) dX1_markOfStern_15 rfl ?_
  rotate_left
  exact kk h3 hA3 ((hf1.tr hf2).tr hf3)
theorem sp_markAsked {K : Int32 → Hp → Prop} (hA : AK h [] o k a f) (hk1 : 1 ≤ k) (hk : k ≤ 5) (hof : o + f ≤ 100) (ha : a ≤ 9) (kk : ∀ h', AK h' (aML k) o k a f → FY h h' → K (aM o k a f) h') : Call G (d + 5) mX1_markAsked [.ref 83] h (pI K) := by
  have e := hA.2.2.1
  have l0 : ([] : List Nat).length = 0 := rfl
  rw [aML, aM] at kk
  refine Call.of (M := mX1_markAsked) (n := 0) (by decide +kernel) rfl ?_
  show WP _ _ _ _ 0 [some (.ref 83)] [] _
  refine wp_aload_n (pc := 0) (i := 0) dX1_markAsked_0 rfl rfl ?_
  refine wp_gfv (pc := 1) fk_X1_27 dX1_markAsked_1 rfl rfl (by first | with_reducible assumption | with_reducible exact hs_same _ _ _ _ | rfl) ?_
  refine wp_iconst (pc := 4) (v := nI 1) dX1_markAsked_4 rfl ?_
  refine wp_cS2i (pc := 5) lk_X1_48 dX1_markAsked_5 rfl (sp_isOfKind hk1 hk (by omega) ?_)
  first | (with_reducible show WP _ _ _ _ _ _ (Value.int (bI _) :: _) _; refine wp_if_eqB (pc := 8) (tgt := 18) dX1_markAsked_8 (by decide) (fun c8 => ?_) (fun c8 => ?_)) | (with_reducible show WP _ _ _ _ _ _ (Value.int (nI _) :: _) _; refine wp_if_eqN (pc := 8) (tgt := 18) dX1_markAsked_8 (by decide) (by omega) (fun c8 => ?_) (fun c8 => ?_)) | refine wp_if_eq (pc := 8) (tgt := 18) dX1_markAsked_8 (by decide) (fun c8 => ?_) (fun c8 => ?_)
  refine wp_aload_n (pc := 18) (i := 0) dX1_markAsked_18 rfl rfl ?_
  refine wp_cV0i (pc := 19) lk_X1_58 dX1_markAsked_19 rfl rfl rfl (sp_markOfStern hA hk ha (fun h2 hA2 hf2 => ?_))
  refine wp_iret (pc := 22) dX1_markAsked_22 rfl ?_
  rotate_left
  refine wp_aload_n (pc := 11) (i := 0) dX1_markAsked_11 rfl rfl ?_
  refine wp_cV0i (pc := 12) lk_X1_55 dX1_markAsked_12 rfl rfl rfl (sp_markOfSoup hA hk hof (by omega) (fun h2 hA2 hf2 => ?_))
  refine wp_goto (pc := 15) (tgt := 22) dX1_markAsked_15 (by decide) ?_
  refine wp_iret (pc := 22) dX1_markAsked_22 rfl ?_
  rotate_left
  · rw [c8] at kk; exact kk h2 hA2 hf2
  · rw [c8] at kk; exact kk h2 hA2 hf2
theorem sp_turnTo {g : Nat} {K : Hp → Prop} (hW : TW h 27 T) (hO : OKT T) (hg : g < T 1) (kk : ∀ h', AK h' [] g (T (20 + g)) (T (26 + g)) (T (32 + g)) → FY h h' → K h') : Call G d mX1_turnTo [.ref 83, .int (nI g), .ref 27] h (pV K) := by
  obtain ⟨o0, o1, o2, o3, o4, o5, o6, o7, o8⟩ := id hO
  refine Call.of (M := mX1_turnTo) (n := 0) (by decide +kernel) rfl ?_
  show WP _ _ _ _ 0 [some (.ref 83), some (.int (nI g)), some (.ref 27)] [] _
  obtain ⟨e0, e1, e2, e3, e4, e5, e6, e7, e8, e9, e10, e11, e12, e13⟩ := id hW
  have e5 : ∀ q, q < T 0 → h 28 q = nI (T (5 + q)) := e5
  have e6 : ∀ q, q < T 0 → h 29 q = nI (T (10 + q)) := e6
  have e7 : ∀ q, q < T 0 → h 30 q = nI (T (15 + q)) := e7
  have e8 : ∀ q, q < T 1 → h 31 q = nI (T (20 + q)) := e8
  have e9 : ∀ q, q < T 1 → h 32 q = nI (T (26 + q)) := e9
  have e10 : ∀ q, q < T 1 → h 33 q = nI (T (32 + q)) := e10
  have e11 : ∀ q, q < T 1 → h 34 q = nI (T (38 + q)) := e11
  have e12 : ∀ q, q < T 1 → h 35 q = nI (T (44 + q)) := e12
  have e13 : ∀ q, q < T 1 → h 36 q = nI (T (50 + q)) := e13
  have r1 : hs (hs h 83 1 (nI 0)) 83 2 (nI g) 31 g = nI (T (20 + g)) := by rw [hs_ne (by decide), hs_ne (by decide)]; exact e8 g hg
  have r2 : hs (hs (hs h 83 1 (nI 0)) 83 2 (nI g)) 83 3 (nI (T (20 + g))) 32 g = nI (T (26 + g)) := by rw [hs_ne (by decide), hs_ne (by decide), hs_ne (by decide)]; exact e9 g hg
  have r3 : hs (hs (hs (hs h 83 1 (nI 0)) 83 2 (nI g)) 83 3 (nI (T (20 + g)))) 83 4 (nI (T (26 + g))) 33 g = nI (T (32 + g)) := by rw [hs_ne (by decide), hs_ne (by decide), hs_ne (by decide), hs_ne (by decide)]; exact e10 g hg
  refine wp_aload_n (pc := 0) (i := 0) dX1_turnTo_0 rfl rfl ?_
  refine wp_iconst (pc := 1) (v := nI 0) dX1_turnTo_1 rfl ?_
  refine wp_pf (pc := 2) fp_X1_15 dX1_turnTo_2 rfl rfl rfl rfl ?_
  refine wp_aload_n (pc := 5) (i := 0) dX1_turnTo_5 rfl rfl ?_
  refine wp_iload_n (pc := 6) (i := 1) dX1_turnTo_6 rfl rfl ?_
  refine wp_pf (pc := 7) fp_X1_19 dX1_turnTo_7 rfl rfl rfl rfl ?_
  refine wp_aload_n (pc := 10) (i := 0) dX1_turnTo_10 rfl rfl ?_
  refine wp_aload_n (pc := 11) (i := 2) dX1_turnTo_11 rfl rfl ?_
  refine wp_gfr (pc := 12) fk_X1_22 dX1_turnTo_12 rfl rfl (by decide) ?_
  refine wp_iload_n (pc := 15) (i := 1) dX1_turnTo_15 rfl rfl ?_
  first | (with_reducible show WP _ _ _ _ _ _ (Value.int (nI _) :: _) _; refine wp_ialdN (pc := 16) dX1_turnTo_16 rfl (by omega) (by first | with_reducible assumption | with_reducible exact hs_same _ _ _ _ | rfl) ?_) | refine wp_iald (pc := 16) dX1_turnTo_16 rfl (by assumption) rfl ?_
  refine wp_pf (pc := 17) fp_X1_27 dX1_turnTo_17 rfl rfl rfl rfl ?_
  refine wp_aload_n (pc := 20) (i := 0) dX1_turnTo_20 rfl rfl ?_
  refine wp_aload_n (pc := 21) (i := 2) dX1_turnTo_21 rfl rfl ?_
  refine wp_gfr (pc := 22) fk_X1_30 dX1_turnTo_22 rfl rfl (by decide) ?_
  refine wp_iload_n (pc := 25) (i := 1) dX1_turnTo_25 rfl rfl ?_
  first | (with_reducible show WP _ _ _ _ _ _ (Value.int (nI _) :: _) _; refine wp_ialdN (pc := 26) dX1_turnTo_26 rfl (by omega) (by first | with_reducible assumption | with_reducible exact hs_same _ _ _ _ | rfl) ?_) | refine wp_iald (pc := 26) dX1_turnTo_26 rfl (by assumption) rfl ?_
  refine wp_pf (pc := 27) fp_X1_33 dX1_turnTo_27 rfl rfl rfl rfl ?_
  refine wp_aload_n (pc := 30) (i := 0) dX1_turnTo_30 rfl rfl ?_
  refine wp_aload_n (pc := 31) (i := 2) dX1_turnTo_31 rfl rfl ?_
  refine wp_gfr (pc := 32) fk_X1_35 dX1_turnTo_32 rfl rfl (by decide) ?_
  refine wp_iload_n (pc := 35) (i := 1) dX1_turnTo_35 rfl rfl ?_
  first | (with_reducible show WP _ _ _ _ _ _ (Value.int (nI _) :: _) _; refine wp_ialdN (pc := 36) dX1_turnTo_36 rfl (by omega) (by first | with_reducible assumption | with_reducible exact hs_same _ _ _ _ | rfl) ?_) | refine wp_iald (pc := 36) dX1_turnTo_36 rfl (by assumption) rfl ?_
  refine wp_pf (pc := 37) fp_X1_38 dX1_turnTo_37 rfl rfl rfl rfl ?_
  refine wp_vret (pc := 40) dX1_turnTo_40 rfl ?_
  rotate_left
  refine kk _ ⟨⟨?_, fun i b hb => by simp at hb⟩, ?_, ?_, ?_, ?_⟩ (fun q h1 h2 => by rw [hs_ne h1, hs_ne h1, hs_ne h1, hs_ne h1, hs_ne h1])
  · rw [hs_ix (by decide), hs_ix (by decide), hs_ix (by decide), hs_ix (by decide), hs_same]; rfl
  · rw [hs_ix (by decide), hs_ix (by decide), hs_ix (by decide), hs_same]
  · rw [hs_ix (by decide), hs_ix (by decide), hs_same]
  · rw [hs_ix (by decide), hs_same]
  · rw [hs_same]
theorem DI.kk {h' : Hp} (H : DI h σ) (hA : AK h' L o k a f) (e : FY h h') : DI h' (upK σ L) := by
  obtain ⟨a, b, c, f, f2, g1, g2, k⟩ := H
  have n : ∀ q, q < 83 → h' q = h q := fun q hq => e q (by omega) (by omega)
  exact ⟨a.cg2 (fun q _ _ => n q (by omega)), b.cg (fun q _ _ => n q (by omega)), c.cg (fun q _ _ => n q (by omega)), f.cg (fun q _ _ => n q (by omega)), f2.cg (by rw [n 13 (by omega)]) (n 14 (by omega)), by rw [n 0 (by omega)]; exact g1, by rw [n 0 (by omega)]; exact g2, hA.1⟩
theorem sd_ask {x w : Int32} {K : Int32 → Hp → Prop} (H : DI h σ) (hO : OKT (gT σ)) (k : ∀ h', DI h' (fAsk σ x w).2 → RS h h' → K (fAsk σ x w).1 h') : Call G (d + 6) mX6_ask [.ref 0, .int x, .int w] h (pI K) := by
  have hW := H.1
  obtain ⟨o0, o1, o2, o3, o4, o5, o6, o7, o8⟩ := id hO
  refine Call.of (M := mX6_ask) (n := 0) (by decide +kernel) rfl ?_
  show WP _ _ _ _ 0 [some (.ref 0), some (.int x), some (.int w)] [] _
  refine wp_aload_n (pc := 0) (i := 0) dX6_ask_0 rfl rfl ?_
  refine wp_gfr (pc := 1) fk_X6_26 dX6_ask_1 rfl rfl (by decide) ?_
  refine wp_iload_n (pc := 4) (i := 1) dX6_ask_4 rfl rfl ?_
  refine wp_cV1i (pc := 5) lk_X6_168 dX6_ask_5 rfl rfl rfl (sp_hasGran isT_27 hW hO ?_)
  first | (with_reducible show WP _ _ _ _ _ _ (Value.int (bI _) :: _) _; refine wp_if_eqB (pc := 8) (tgt := 20) dX6_ask_8 (by decide) (fun c8 => ?_) (fun c8 => ?_)) | (with_reducible show WP _ _ _ _ _ _ (Value.int (nI _) :: _) _; refine wp_if_eqN (pc := 8) (tgt := 20) dX6_ask_8 (by decide) (by omega) (fun c8 => ?_) (fun c8 => ?_)) | refine wp_if_eq (pc := 8) (tgt := 20) dX6_ask_8 (by decide) (fun c8 => ?_) (fun c8 => ?_)
  refine wp_ldc (pc := 20) kn_X6_78 dX6_ask_20 ?_
  refine wp_iret (pc := 22) dX6_ask_22 rfl ?_
  rotate_left
  refine wp_iload_n (pc := 11) (i := 2) dX6_ask_11 rfl rfl ?_
  refine wp_iconst (pc := 12) (v := nI 0) dX6_ask_12 rfl ?_
  refine wp_iconst (pc := 13) (v := nI 1) dX6_ask_13 rfl ?_
  refine wp_cS3i (pc := 14) lk_X6_74 dX6_ask_14 rfl (sp_btw (by decide) (by decide) ?_)
  first | (with_reducible show WP _ _ _ _ _ _ (Value.int (bI _) :: _) _; refine wp_if_neB (pc := 17) (tgt := 23) dX6_ask_17 (by decide) (fun c17 => ?_) (fun c17 => ?_)) | (with_reducible show WP _ _ _ _ _ _ (Value.int (nI _) :: _) _; refine wp_if_neN (pc := 17) (tgt := 23) dX6_ask_17 (by decide) (by omega) (fun c17 => ?_) (fun c17 => ?_)) | refine wp_if_ne (pc := 17) (tgt := 23) dX6_ask_17 (by decide) (fun c17 => ?_) (fun c17 => ?_)
  rotate_left
  refine wp_ldc (pc := 20) kn_X6_78 dX6_ask_20 ?_
  refine wp_iret (pc := 22) dX6_ask_22 rfl ?_
  rotate_left
  · rw [fAsk, c8] at k; exact k h H RS.rf
  rotate_left
  · rw [fAsk, c8, c17] at k; exact k h H RS.rf
  rw [fAsk, c8, c17] at k
  obtain ⟨g, hg, rfl⟩ := inN_t (by omega) c8
  obtain ⟨m, -, hm, rfl⟩ := btw_t (by decide) c17
  rw [nI_clamp (show g < 2 ^ 31 by omega)] at k
  obtain ⟨⟨q1, q2⟩, q3, q4, -⟩ := o7 g hg
  have em : nI m = nI 0 ↔ m = 0 := nI_eq (by omega) (by decide)
  refine wp_aload_n (pc := 23) (i := 0) dX6_ask_23 rfl rfl ?_
  refine wp_gfr (pc := 24) fk_X6_59 dX6_ask_24 rfl rfl (by decide) ?_
  refine wp_iload_n (pc := 27) (i := 1) dX6_ask_27 rfl rfl ?_
  refine wp_aload_n (pc := 28) (i := 0) dX6_ask_28 rfl rfl ?_
  refine wp_gfr (pc := 29) fk_X6_26 dX6_ask_29 rfl rfl (by decide) ?_
  refine wp_cV2v (pc := 32) lk_X6_303 dX6_ask_32 rfl rfl rfl (sp_turnTo hW hO hg (fun h1 hA1 hf1 => ?_))
  refine wp_iload_n (pc := 35) (i := 2) dX6_ask_35 rfl rfl ?_
  first | (with_reducible show WP _ _ _ _ _ _ (Value.int (bI _) :: _) _; refine wp_if_neB (pc := 36) (tgt := 49) dX6_ask_36 (by decide) (fun c36 => ?_) (fun c36 => ?_)) | (with_reducible show WP _ _ _ _ _ _ (Value.int (nI _) :: _) _; refine wp_if_neN (pc := 36) (tgt := 49) dX6_ask_36 (by decide) (by omega) (fun c36 => ?_) (fun c36 => ?_)) | refine wp_if_ne (pc := 36) (tgt := 49) dX6_ask_36 (by decide) (fun c36 => ?_) (fun c36 => ?_)
  refine wp_aload_n (pc := 49) (i := 0) dX6_ask_49 rfl rfl ?_
  refine wp_gfr (pc := 50) fk_X6_59 dX6_ask_50 rfl rfl (by decide) ?_
  refine wp_cV0i (pc := 53) lk_X6_310 dX6_ask_53 rfl rfl rfl (sp_markAsked hA1 q1 q2 (by omega) q3 (fun h2 hA2 hf2 => ?_))
  refine wp_iret (pc := 56) dX6_ask_56 rfl ?_
  rotate_left
  refine wp_aload_n (pc := 39) (i := 0) dX6_ask_39 rfl rfl ?_
  refine wp_gfr (pc := 40) fk_X6_59 dX6_ask_40 rfl rfl (by decide) ?_
  refine wp_cV0i (pc := 43) lk_X6_307 dX6_ask_43 rfl rfl rfl (sp_sizeAsked hA1 q1 q2 (by omega) q3 (fun h2 hA2 hf2 => ?_))
  refine wp_goto (pc := 46) (tgt := 56) dX6_ask_46 (by decide) ?_
  refine wp_iret (pc := 56) dX6_ask_56 rfl ?_
  rotate_left
  · rw [if_neg (fun q => c36 (em.mp q))] at k
    exact k h2 (H.kk hA2 (hf1.tr hf2)) (fun a ha => (hf1.tr hf2) a (by omega) (by omega))
  · rw [if_pos (em.mpr c36)] at k
    exact k h2 (H.kk hA2 (hf1.tr hf2)) (fun a ha => (hf1.tr hf2) a (by omega) (by omega))
end DASK2
