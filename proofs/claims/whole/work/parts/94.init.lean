/-! the start: a new object holds what a new reference holds -/
def hS0 : Hp := fun k => if k = 12 then m1 8 else if k = 93 then m1 8 else fun _ => 0
def σ0 : Sg := (zT, [], fun _ => none, fun _ => none, [], 0, 0, [])
theorem hS0_z {k : Nat} (h1 : k ≠ 12) (h2 : k ≠ 93) (j : Nat) : hS0 k j = nI 0 := by
  show (if k = 12 then m1 8 else if k = 93 then m1 8 else fun _ => 0) j = nI 0
  rw [if_neg h1, if_neg h2]; rfl
theorem m1_in {j : Nat} (h : j < 8) : m1 8 j = kM1 := if_pos h
theorem okt_z : OKT zT := ⟨Nat.zero_le _, Nat.zero_le _, Nat.zero_le _, Nat.zero_le _, Nat.zero_le _, fun h => absurd h (by decide), fun c _ => ⟨Nat.zero_le _, Nat.zero_le _, by show 0 < 64; decide⟩, fun g h => absurd (show g < 0 from h) (by omega), fun c _ _ => ⟨rfl, rfl⟩⟩
theorem kp_0 : KP σ0 := by
  refine ⟨⟨⟨okt_z, by show 0 ≤ 999; decide⟩, fun j T h => ?_, fun k T h => ?_, fun r x h => ?_, ⟨by show 0 ≤ 100; decide, fun i b h => ?_⟩, by show 0 ≤ 3; decide, by show 0 ≤ 5; decide, by show 0 ≤ 16; decide⟩, fun _ => ⟨rfl, rfl, fun _ => rfl⟩⟩
  · have h : ([] : List Tn)[j]? = some T := h
    simp at h
  · cases h
  · cases h
  · have h : ([] : List Nat)[i]? = some b := h
    simp at h
theorem li_0 : LI hS0 σ0 := by
  have e12 : ∀ r, r < 8 → hS0 12 r = kM1 := fun r hr => m1_in hr
  have e93 : ∀ r, r < 8 → hS0 93 r = kM1 := fun r hr => m1_in hr
  refine ⟨⟨⟨hS0_z (by decide) (by decide) _, hS0_z (by decide) (by decide) _, hS0_z (by decide) (by decide) _, hS0_z (by decide) (by decide) _, hS0_z (by decide) (by decide) _, fun c h => ?_, fun c h => ?_, fun c h => ?_, fun c h => ?_, fun c h => ?_, fun c h => ?_, fun c h => ?_, fun c h => ?_, fun c h => ?_⟩, ⟨0, by decide, hS0_z (by decide) (by decide) _, hS0_z (by decide) (by decide) _, by show 0 ≤ 24; decide, fun j T h => ?_⟩, fun k _ => hS0_z (by decide) (by decide) _, fun r hr => e12 r hr, ⟨hS0_z (by decide) (by decide) _, fun i b h => ?_⟩, hS0_z (by decide) (by decide) _, hS0_z (by decide) (by decide) _, ⟨hS0_z (by decide) (by decide) _, fun i b h => ?_⟩⟩, ⟨fun k _ => hS0_z (by decide) (by decide) _, hS0_z (by decide) (by decide) _, ⟨hS0_z (by decide) (by decide) _, by show 0 ≤ 24; decide, fun j T h => ?_⟩, fun k _ => hS0_z (by decide) (by decide) _, fun r hr => e93 r hr, ⟨hS0_z (by decide) (by decide) _, fun i b h => ?_⟩, hS0_z (by decide) (by decide) _, hS0_z (by decide) (by decide) _, ⟨hS0_z (by decide) (by decide) _, fun i b h => ?_⟩⟩, kp_0, hS0_z (by decide) (by decide) _⟩
  all_goals first
    | (exact absurd (show c < 0 from h) (by omega))
    | (have h : ([] : List Tn)[j]? = some T := h
       simp at h)
    | (have h : ([] : List Nat)[i]? = some b := h
       simp at h)
