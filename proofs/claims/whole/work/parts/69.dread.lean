/-! the town that the tape tells: a reading ends well, or with a fault at its place -/
def fg (B : List Nat) (i : Nat) : Bool := match B[i]? with
  | some b => decide (48 ≤ b ∧ b ≤ 57)
  | none => false
def bv (B : List Nat) (i : Nat) : Nat := B.getD i 0
def nok (B : List Nat) (a : Nat) : Bool := fg B a && !(fg B (a + 1) && fg B (a + 2))
def nv (B : List Nat) (a : Nat) : Nat := if fg B (a + 1) then 10 * (bv B a - 48) + bv B (a + 1) - 48 else bv B a - 48
def nz (B : List Nat) (a : Nat) : Nat := if fg B (a + 1) then 2 else 1
def kol (b : Nat) : Nat := if b = 115 then 1 else if b = 111 then 2 else if b = 116 then 3 else if b = 110 then 4 else if b = 119 then 5 else 0
def ko (B : List Nat) (a : Nat) : Nat := match B[a]? with
  | some b => kol b
  | none => 0
theorem kol_le (b : Nat) : kol b ≤ 5 := by unfold kol; repeat' split
                                           all_goals omega
theorem ko_le (B : List Nat) (a : Nat) : ko B a ≤ 5 := by
  unfold ko; split
  · exact kol_le _
  · omega
theorem fg_ex {B : List Nat} {i : Nat} (h : fg B i = true) : ∃ b, B[i]? = some b ∧ 48 ≤ b ∧ b ≤ 57 ∧ bv B i = b ∧ i < B.length := by
  unfold fg at h
  cases q : B[i]? with
  | none => rw [q] at h; cases h
  | some b =>
    rw [q] at h
    have := of_decide_eq_true h
    exact ⟨b, rfl, this.1, this.2, by unfold bv; rw [List.getD_eq_getElem?_getD, q]; rfl, (List.getElem?_eq_some_iff.mp q).1⟩
theorem fg_no {B : List Nat} {i : Nat} (h : B.length ≤ i) : fg B i = false := by
  unfold fg; rw [List.getElem?_eq_none h]
theorem fg_at {B : List Nat} {i b : Nat} (h : B[i]? = some b) : fg B i = decide (48 ≤ b ∧ b ≤ 57) := by unfold fg; rw [h]
theorem bv_at {B : List Nat} {i b : Nat} (h : B[i]? = some b) : bv B i = b := by unfold bv; rw [List.getD_eq_getElem?_getD, h]; rfl
abbrev Rd : Type := Sum (Nat × Nat) (Tn × Nat)
def rno (w a : Nat) : Rd := Sum.inl (w, a)
def rok (T : Tn) (a : Nat) : Rd := Sum.inr (T, a)
def rS (B : List Nat) (c a : Nat) (k : Nat → Rd) : Rd := if B[a]? = some c then k (a + 1) else rno 1 a
def rN (B : List Nat) (lo hi a : Nat) (k : Nat → Nat → Rd) : Rd := if nok B a then (if lo ≤ nv B a ∧ nv B a ≤ hi then k (nv B a) (a + nz B a) else rno 2 a) else rno 1 a
theorem rS_t {B : List Nat} {c a : Nat} {k : Nat → Rd} (h : B[a]? = some c) : rS B c a k = k (a + 1) := if_pos h
theorem rS_f {B : List Nat} {c a : Nat} {k : Nat → Rd} (h : ¬ B[a]? = some c) : rS B c a k = rno 1 a := if_neg h
theorem rN_t {B : List Nat} {lo hi a : Nat} {k : Nat → Nat → Rd} (h : nok B a = true) (h2 : lo ≤ nv B a ∧ nv B a ≤ hi) : rN B lo hi a k = k (nv B a) (a + nz B a) := by rw [rN, if_pos h, if_pos h2]
theorem rN_2 {B : List Nat} {lo hi a : Nat} {k : Nat → Nat → Rd} (h : nok B a = true) (h2 : ¬ (lo ≤ nv B a ∧ nv B a ≤ hi)) : rN B lo hi a k = rno 2 a := by rw [rN, if_pos h, if_neg h2]
theorem rN_1 {B : List Nat} {lo hi a : Nat} {k : Nat → Nat → Rd} (h : nok B a = false) : rN B lo hi a k = rno 1 a := by rw [rN, h]; rfl
theorem nv_lt {B : List Nat} {a : Nat} (h : nok B a = true) : nv B a < 100 ∧ a + nz B a ≤ B.length ∧ 1 ≤ nz B a ∧ nz B a ≤ 2 := by
  unfold nok at h
  rw [Bool.and_eq_true] at h
  obtain ⟨b, e1, e2, e3, e4, e5⟩ := fg_ex h.1
  unfold nv nz
  cases q : fg B (a + 1) with
  | false => rw [if_neg (by decide), if_neg (by decide)]; omega
  | true =>
    obtain ⟨b', f1, f2, f3, f4, f5⟩ := fg_ex q
    rw [if_pos rfl, if_pos rfl]; omega
def zT : Tn := fun _ => 0
def rLaw (B : List Nat) (k : Tn → Nat → Rd) : Rd := rS B 108 0 fun a => rN B 0 9 a fun e a => rS B 44 a fun a => rN B 1 6 a fun p a => rS B 59 a fun a => k (up (up zT 2 e) 3 p) a
def chT (T : Tn) (n f s : Nat) : Tn := up (up (up T (5 + n) f) (10 + n) s) 0 (n + 1)
def rChild (B : List Nat) (T : Tn) (a : Nat) (k : Tn → Nat → Rd) : Rd := rN B 0 60 a fun f a => rS B 44 a fun a => rN B 0 20 a fun s a => rS B 59 a fun a => k (chT T (T 0) f s) a
def rChs (B : List Nat) (k : Tn → Nat → Rd) : Nat → Tn → Nat → Rd
  | 0, T, a => if B[a]? = some 99 then rno 3 a else k T a
  | m + 1, T, a => if B[a]? = some 99 then rChild B T (a + 1) (rChs B k m) else k T a
def grT (T : Tn) (n s r f p : Nat) : Tn := up (up (up (up (up T (20 + n) s) (26 + n) r) (32 + n) f) (38 + n) p) 1 (n + 1)
def rGran (B : List Nat) (T : Tn) (s a : Nat) (k : Tn → Nat → Rd) : Rd := rN B 1 9 a fun r a => rS B 44 a fun a => rN B 0 (T 0 - 1) a fun f a => rS B 44 a fun a => rN B 0 4 a fun p a => rS B 59 a fun a => k (grT T (T 1) s r f p) a
def rEnd (B : List Nat) (T : Tn) (a : Nat) : Rd := if a = B.length then rok T a else rno 1 a
def rGrs (B : List Nat) : Nat → Tn → Nat → Rd
  | 0, T, a => if 0 < ko B a then rno 3 a else rEnd B T a
  | m + 1, T, a => if 0 < ko B a then rGran B T (ko B a) (a + 1) (rGrs B m) else rEnd B T a
def rGrs1 (B : List Nat) (T : Tn) (a : Nat) : Rd := if 0 < ko B a then rGrs B 6 T a else rno 1 a
def rTown (B : List Nat) : Rd := rLaw B fun T a => if B[a]? = some 99 then rChs B (rGrs1 B) 5 T a else rno 1 a
/-- the reader, with a fault or none -/
def RX (h : Hp) (B : List Nat) (f a : Nat) : Prop := DB h B ∧ h 13 4 = nI a ∧ h 13 5 = nI f ∧ h 13 2 = nI (if f = 0 then 0 else a)
def OB (B : List Nat) : Prop := B.length ≤ 100 ∧ ∀ (i b : Nat), B[i]? = some b → b < 256
theorem RX.cg {h h' : Hp} {B : List Nat} {f a : Nat} (H : RX h B f a) (e : h' 13 = h 13) (e2 : h' 14 = h 14) : RX h' B f a := by
  unfold RX DB; rw [e, e2]; exact H
section DREAD
variable {G : Gt} {d : Nat} {h : Hp} {B : List Nat} {f a : Nat}
theorem sp_nextByte {K : Int32 → Hp → Prop} (hX : RX h B f a) (hB : OB B) (ha : a ≤ 100) (k1 : ∀ b, B[a]? = some b → b < 256 → K (nI b) h) (k0 : B[a]? = none → K kM1 h) : Call G d mX2_nextByte [.ref 13] h (pI K) := by
  obtain ⟨⟨b1, b2⟩, x1, x2, x3⟩ := id hX
  have l := hB.1
  refine Call.of (M := mX2_nextByte) (n := 0) (by decide +kernel) rfl ?_
  show WP _ _ _ _ 0 [some (.ref 13)] [] _
  by_cases z : a < B.length
  · have q : B[a]? = some B[a] := List.getElem?_eq_getElem z
    have e := b2 a _ q
    refine wp_aload_n (pc := 0) (i := 0) dX2_nextByte_0 rfl rfl ?_
    refine wp_gfv (pc := 1) fk_X2_26 dX2_nextByte_1 rfl rfl (by first | with_reducible assumption | with_reducible exact hs_same _ _ _ _ | rfl) ?_
    refine wp_aload_n (pc := 4) (i := 0) dX2_nextByte_4 rfl rfl ?_
    refine wp_gfv (pc := 5) fk_X2_22 dX2_nextByte_5 rfl rfl (by first | with_reducible assumption | with_reducible exact hs_same _ _ _ _ | rfl) ?_
    first | (with_reducible show WP _ _ _ _ _ _ (Value.int (nI _) :: Value.int (nI _) :: _) _; refine wp_icmp_geN (pc := 8) (tgt := 23) dX2_nextByte_8 (by decide) (by omega) (by omega) (fun c8 => ?_) (fun c8 => ?_)) | refine wp_icmp_ge (pc := 8) (tgt := 23) dX2_nextByte_8 (by decide) (fun c8 => ?_) (fun c8 => ?_)
    rotate_left
    refine wp_aload_n (pc := 11) (i := 0) dX2_nextByte_11 rfl rfl ?_
    refine wp_gfr (pc := 12) fk_X2_18 dX2_nextByte_12 rfl rfl (by decide) ?_
    refine wp_aload_n (pc := 15) (i := 0) dX2_nextByte_15 rfl rfl ?_
    refine wp_gfv (pc := 16) fk_X2_26 dX2_nextByte_16 rfl rfl (by first | with_reducible assumption | with_reducible exact hs_same _ _ _ _ | rfl) ?_
    first | (with_reducible show WP _ _ _ _ _ _ (Value.int (nI _) :: _) _; refine wp_ialdN (pc := 19) dX2_nextByte_19 rfl (by omega) (by first | with_reducible assumption | with_reducible exact hs_same _ _ _ _ | rfl) ?_) | refine wp_iald (pc := 19) dX2_nextByte_19 rfl (by assumption) rfl ?_
    refine wp_goto (pc := 20) (tgt := 24) dX2_nextByte_20 (by decide) ?_
    refine wp_iret (pc := 24) dX2_nextByte_24 rfl ?_
    rotate_left
    · exact absurd c8 (by omega)
    · exact k1 _ q (hB.2 a _ q)
  · refine wp_aload_n (pc := 0) (i := 0) dX2_nextByte_0 rfl rfl ?_
    refine wp_gfv (pc := 1) fk_X2_26 dX2_nextByte_1 rfl rfl (by first | with_reducible assumption | with_reducible exact hs_same _ _ _ _ | rfl) ?_
    refine wp_aload_n (pc := 4) (i := 0) dX2_nextByte_4 rfl rfl ?_
    refine wp_gfv (pc := 5) fk_X2_22 dX2_nextByte_5 rfl rfl (by first | with_reducible assumption | with_reducible exact hs_same _ _ _ _ | rfl) ?_
    first | (with_reducible show WP _ _ _ _ _ _ (Value.int (nI _) :: Value.int (nI _) :: _) _; refine wp_icmp_geN (pc := 8) (tgt := 23) dX2_nextByte_8 (by decide) (by omega) (by omega) (fun c8 => ?_) (fun c8 => ?_)) | refine wp_icmp_ge (pc := 8) (tgt := 23) dX2_nextByte_8 (by decide) (fun c8 => ?_) (fun c8 => ?_)
    refine wp_iconst (pc := 23) (v := kM1) dX2_nextByte_23 rfl ?_
    refine wp_iret (pc := 24) dX2_nextByte_24 rfl ?_
    rotate_left
    rotate_left
    · exact k0 (List.getElem?_eq_none (by omega))
    · exact absurd c8 (by omega)
theorem sp_fail {w : Nat} {K : Hp → Prop} (hX : RX h B f a) (hf : f ≤ 3) (hw : ¬ w = 0) (kB : ¬ f = 0 → K h) (kF : f = 0 → ∀ h', RX h' B w a → (∀ q, q ≠ 13 → h' q = h q) → K h') : Call G d mX2_fail [.ref 13, .int (nI w)] h (pV K) := by
  obtain ⟨⟨b1, b2⟩, x1, x2, x3⟩ := id hX
  refine Call.of (M := mX2_fail) (n := 0) (by decide +kernel) rfl ?_
  show WP _ _ _ _ 0 [some (.ref 13), some (.int (nI w))] [] _
  have x1' : hs h 13 5 (nI w) 13 4 = nI a := by rw [hs_ix (by decide)]; exact x1
  refine wp_aload_n (pc := 0) (i := 0) dX2_fail_0 rfl rfl ?_
  refine wp_gfv (pc := 1) fk_X2_29 dX2_fail_1 rfl rfl (by first | with_reducible assumption | with_reducible exact hs_same _ _ _ _ | rfl) ?_
  first | (with_reducible show WP _ _ _ _ _ _ (Value.int (bI _) :: _) _; refine wp_if_neB (pc := 4) (tgt := 20) dX2_fail_4 (by decide) (fun c4 => ?_) (fun c4 => ?_)) | (with_reducible show WP _ _ _ _ _ _ (Value.int (nI _) :: _) _; refine wp_if_neN (pc := 4) (tgt := 20) dX2_fail_4 (by decide) (by omega) (fun c4 => ?_) (fun c4 => ?_)) | refine wp_if_ne (pc := 4) (tgt := 20) dX2_fail_4 (by decide) (fun c4 => ?_) (fun c4 => ?_)
  refine wp_vret (pc := 20) dX2_fail_20 rfl ?_
  rotate_left
  refine wp_aload_n (pc := 7) (i := 0) dX2_fail_7 rfl rfl ?_
  refine wp_iload_n (pc := 8) (i := 1) dX2_fail_8 rfl rfl ?_
  refine wp_pf (pc := 9) fp_X2_29 dX2_fail_9 rfl rfl rfl rfl ?_
  refine wp_aload_n (pc := 12) (i := 0) dX2_fail_12 rfl rfl ?_
  refine wp_aload_n (pc := 13) (i := 0) dX2_fail_13 rfl rfl ?_
  refine wp_gfv (pc := 14) fk_X2_26 dX2_fail_14 rfl rfl (by first | with_reducible assumption | with_reducible exact hs_same _ _ _ _ | rfl) ?_
  refine wp_pf (pc := 17) fp_X2_32 dX2_fail_17 rfl rfl rfl rfl ?_
  refine wp_vret (pc := 20) dX2_fail_20 rfl ?_
  rotate_left
  · exact kB c4
  · refine kF c4 _ ⟨⟨?_, fun i b hb => ?_⟩, ?_, ?_, ?_⟩ (fun q hq => by rw [hs_ne hq, hs_ne hq])
    · rw [hs_ix (by decide), hs_ix (by decide)]; exact b1
    · rw [hs_ne (by decide), hs_ne (by decide)]; exact b2 i b hb
    · rw [hs_ix (by decide)]; exact x1'
    · rw [hs_ix (by decide)]; exact hs_same _ _ _ _
    · rw [hs_same, if_neg hw]
theorem rx_at {n : Nat} (hX : RX h B 0 a) : RX (hs h 13 4 (nI (a + n))) B 0 (a + n) := by
  obtain ⟨⟨b1, b2⟩, x1, x2, x3⟩ := id hX
  refine ⟨⟨?_, fun i b hb => ?_⟩, hs_same _ _ _ _, ?_, ?_⟩
  · rw [hs_ix (by decide)]; exact b1
  · rw [hs_ne (by decide)]; exact b2 i b hb
  · rw [hs_ix (by decide)]; exact x2
  · rw [hs_ix (by decide)]; exact x3
theorem sp_takeSign {c : Nat} {K : Hp → Prop} (hX : RX h B 0 a) (hB : OB B) (ha : a ≤ B.length) (hc : c < 256) (k1 : B[a]? = some c → a + 1 ≤ B.length → ∀ h', RX h' B 0 (a + 1) → (∀ q, q ≠ 13 → h' q = h q) → K h') (k0 : ¬ B[a]? = some c → ∀ h', RX h' B 1 a → (∀ q, q ≠ 13 → h' q = h q) → K h') : Call G (d + 1) mX2_takeSign [.ref 13, .int (nI c)] h (pV K) := by
  obtain ⟨⟨b1, b2⟩, x1, x2, x3⟩ := id hX
  have l := hB.1
  refine Call.of (M := mX2_takeSign) (n := 0) (by decide +kernel) rfl ?_
  show WP _ _ _ _ 0 [some (.ref 13), some (.int (nI c))] [] _
  have bad : ¬ B[a]? = some c → WP G (d + 1) mX2_takeSign (pV K) 8 [some (.ref 13), some (.int (nI c))] [] h := by
    intro q
    refine wp_aload_n (pc := 8) (i := 0) dX2_takeSign_8 rfl rfl ?_
    refine wp_iconst (pc := 9) (v := nI 1) dX2_takeSign_9 rfl ?_
    refine wp_cV1v (pc := 10) lk_X2_77 dX2_takeSign_10 rfl rfl rfl (sp_fail hX (by omega) (by omega) (fun z => absurd rfl z) (fun _ h' hX' he => ?_))
    refine wp_goto (pc := 13) (tgt := 33) dX2_takeSign_13 (by decide) ?_
    refine wp_vret (pc := 33) dX2_takeSign_33 rfl ?_
    rotate_left
    exact k0 q h' hX' he
  refine wp_aload_n (pc := 0) (i := 0) dX2_takeSign_0 rfl rfl ?_
  refine wp_cV0i (pc := 1) lk_X2_64 dX2_takeSign_1 rfl rfl rfl ?_
  rotate_left
  refine sp_nextByte hX hB (by omega) (fun b hb hb2 => ?_) (fun hb => ?_)
  · refine wp_iload_n (pc := 4) (i := 1) dX2_takeSign_4 rfl rfl ?_
    first | (with_reducible show WP _ _ _ _ _ _ (Value.int (nI _) :: Value.int (nI _) :: _) _; refine wp_icmp_eqN (pc := 5) (tgt := 16) dX2_takeSign_5 (by decide) (by omega) (by omega) (fun c5 => ?_) (fun c5 => ?_)) | refine wp_icmp_eq (pc := 5) (tgt := 16) dX2_takeSign_5 (by decide) (fun c5 => ?_) (fun c5 => ?_)
    refine wp_aload_n (pc := 16) (i := 0) dX2_takeSign_16 rfl rfl ?_
    refine wp_gfv (pc := 17) fk_X2_29 dX2_takeSign_17 rfl rfl (by first | with_reducible assumption | with_reducible exact hs_same _ _ _ _ | rfl) ?_
    first | (with_reducible show WP _ _ _ _ _ _ (Value.int (bI _) :: _) _; refine wp_if_neB (pc := 20) (tgt := 33) dX2_takeSign_20 (by decide) (fun c20 => ?_) (fun c20 => ?_)) | (with_reducible show WP _ _ _ _ _ _ (Value.int (nI _) :: _) _; refine wp_if_neN (pc := 20) (tgt := 33) dX2_takeSign_20 (by decide) (by omega) (fun c20 => ?_) (fun c20 => ?_)) | refine wp_if_ne (pc := 20) (tgt := 33) dX2_takeSign_20 (by decide) (fun c20 => ?_) (fun c20 => ?_)
    refine wp_vret (pc := 33) dX2_takeSign_33 rfl ?_
    rotate_left
    refine wp_aload_n (pc := 23) (i := 0) dX2_takeSign_23 rfl rfl ?_
    refine wp_dup (pc := 24) dX2_takeSign_24 rfl ?_
    refine wp_gfv (pc := 25) fk_X2_26 dX2_takeSign_25 rfl rfl (by first | with_reducible assumption | with_reducible exact hs_same _ _ _ _ | rfl) ?_
    refine wp_iconst (pc := 28) (v := nI 1) dX2_takeSign_28 rfl ?_
    first | (with_reducible show WP _ _ _ _ _ _ (Value.int (nI _) :: Value.int (nI _) :: _) _; refine wp_iaddN (pc := 29) dX2_takeSign_29 ?_) | refine wp_iadd (pc := 29) dX2_takeSign_29 ?_
    refine wp_pf (pc := 30) fp_X2_26 dX2_takeSign_30 rfl rfl rfl rfl ?_
    refine wp_vret (pc := 33) dX2_takeSign_33 rfl ?_
    rotate_left
    rotate_left
    · exact absurd rfl c20
    · refine k1 (by rw [hb, c5]) (by have := (List.getElem?_eq_some_iff.mp hb).1; omega) _ (rx_at hX) (fun q hq => hs_ne hq)
    · exact bad (by rw [hb]; exact fun q => c5 (Option.some.inj q))
  · refine wp_iload_n (pc := 4) (i := 1) dX2_takeSign_4 rfl rfl ?_
    first | (with_reducible show WP _ _ _ _ _ _ (Value.int (nI _) :: Value.int (nI _) :: _) _; refine wp_icmp_eqN (pc := 5) (tgt := 16) dX2_takeSign_5 (by decide) (by omega) (by omega) (fun c5 => ?_) (fun c5 => ?_)) | refine wp_icmp_eq (pc := 5) (tgt := 16) dX2_takeSign_5 (by decide) (fun c5 => ?_) (fun c5 => ?_)
    rotate_left
    rotate_left
    · exact absurd c5 (by
        intro e
        have := congrArg Int32.toInt e
        rw [nI_toInt (by omega)] at this
        have km : kM1.toInt = -1 := by decide
        omega)
    · exact bad (by rw [hb]; simp)
theorem sp_takeSignF {c : Nat} {K : Hp → Prop} (hX : RX h B f a) (hB : OB B) (ha : a ≤ B.length) (hf : f ≤ 3) (hf0 : ¬ f = 0) (k : K h) : Call G (d + 1) mX2_takeSign [.ref 13, .int (nI c)] h (pV K) := by
  obtain ⟨⟨b1, b2⟩, x1, x2, x3⟩ := id hX
  have l := hB.1
  refine Call.of (M := mX2_takeSign) (n := 0) (by decide +kernel) rfl ?_
  show WP _ _ _ _ 0 [some (.ref 13), some (.int (nI c))] [] _
  have bad : WP G (d + 1) mX2_takeSign (pV K) 8 [some (.ref 13), some (.int (nI c))] [] h := by
    refine wp_aload_n (pc := 8) (i := 0) dX2_takeSign_8 rfl rfl ?_
    refine wp_iconst (pc := 9) (v := nI 1) dX2_takeSign_9 rfl ?_
    refine wp_cV1v (pc := 10) lk_X2_77 dX2_takeSign_10 rfl rfl rfl (sp_fail hX hf (by omega) (fun _ => ?_) (fun z => absurd z hf0))
    refine wp_goto (pc := 13) (tgt := 33) dX2_takeSign_13 (by decide) ?_
    refine wp_vret (pc := 33) dX2_takeSign_33 rfl ?_
    rotate_left
    exact k
  have good : WP G (d + 1) mX2_takeSign (pV K) 16 [some (.ref 13), some (.int (nI c))] [] h := by
    refine wp_aload_n (pc := 16) (i := 0) dX2_takeSign_16 rfl rfl ?_
    refine wp_gfv (pc := 17) fk_X2_29 dX2_takeSign_17 rfl rfl (by first | with_reducible assumption | with_reducible exact hs_same _ _ _ _ | rfl) ?_
    first | (with_reducible show WP _ _ _ _ _ _ (Value.int (bI _) :: _) _; refine wp_if_neB (pc := 20) (tgt := 33) dX2_takeSign_20 (by decide) (fun c20 => ?_) (fun c20 => ?_)) | (with_reducible show WP _ _ _ _ _ _ (Value.int (nI _) :: _) _; refine wp_if_neN (pc := 20) (tgt := 33) dX2_takeSign_20 (by decide) (by omega) (fun c20 => ?_) (fun c20 => ?_)) | refine wp_if_ne (pc := 20) (tgt := 33) dX2_takeSign_20 (by decide) (fun c20 => ?_) (fun c20 => ?_)
    refine wp_vret (pc := 33) dX2_takeSign_33 rfl ?_
    rotate_left
    rotate_left
    · exact k
    · exact absurd c20 hf0
  have all : ∀ x, WP G (d + 1) mX2_takeSign (pV K) 4 [some (.ref 13), some (.int (nI c))] [.int x] h := by
    intro x
    refine wp_iload_n (pc := 4) (i := 1) dX2_takeSign_4 rfl rfl ?_
    refine wp_icmp_eq (pc := 5) (tgt := 16) dX2_takeSign_5 (by decide) (fun _ => good) (fun _ => bad)
  refine wp_aload_n (pc := 0) (i := 0) dX2_takeSign_0 rfl rfl ?_
  refine wp_cV0i (pc := 1) lk_X2_64 dX2_takeSign_1 rfl rfl rfl ?_
  rotate_left
  exact sp_nextByte hX hB (by omega) (fun b _ _ => all _) (fun _ => all _)
end DREAD
