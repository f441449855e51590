/-! FACTS of a table that stands: a good one's, or none's -/
def FCT (P : GD) (T : PT) : Prop := (GV P ∧ GC P ∧ hDn P ∧ hSi P) ∧ (hOr P ∧ hMi P ∧ hSp P ∧ hBr P ∧ hBt P) ∧ (hLa P ∧ GP P T ∧ hP0 P T ∧ HT P T) ∧ hMv P
theorem FCT_good {P : GD} {T : PT} (h : GOOD P T) : FCT P T := by
  obtain ⟨⟨⟨k1, k2, k3, k4, k5, k6, k7, k8, k9, k10⟩, g2, g3, g4, g5⟩, _, hm⟩ := h
  exact ⟨⟨k1, k2, k3, k4⟩, ⟨k5, k6, k7, k8, k9⟩, ⟨g2, g3, g4, g5⟩, hm⟩
theorem P0_N {x : Nat} : ¬ x < gN P0 := Nat.not_lt_zero x
theorem P0_R {x : Nat} : ¬ x < gR P0 := Nat.not_lt_zero x
theorem P0_M {x : Nat} : ¬ x < gM P0 := Nat.not_lt_zero x
theorem GV_0 : GV P0 := by
  refine ⟨⟨by decide, by decide, by decide, by decide⟩, fun s t h => absurd h P0_R, fun x h => absurd h P0_N, fun x s h => absurd h P0_N, fun x y h => absurd h P0_N, fun i h => absurd h P0_M⟩
theorem GC_0 : GC P0 := by
  refine ⟨⟨fun x h => absurd h P0_N, fun s h => absurd h P0_R⟩, ⟨rfl, fun x _ h => absurd h P0_N⟩, ⟨fun x h => absurd h P0_N, fun x y h => absurd h P0_N⟩, fun x s h => absurd h P0_N, fun x s h => absurd h P0_N, fun x s h => absurd h P0_N⟩
theorem hOr_0 : hOr P0 := fun x h => absurd h P0_N
theorem hSp_0 : hSp P0 := ⟨rfl, fun x _ h => absurd h P0_N⟩
theorem hBt_0 : hBt P0 := ⟨fun z h => absurd h P0_N, fun x y z h => absurd h P0_N, fun y z h => absurd h P0_N⟩
theorem hLa_0 : hLa P0 := fun x y sd h => absurd h P0_N
theorem hRr_0 : hRr P0 := fun v w h => absurd h P0_N
theorem hPp_0 (T : PT) : hPp P0 T := fun v w h => absurd h P0_N
theorem hP0_0 (T : PT) : hP0 P0 T := fun v w h => absurd h P0_N
theorem hMv_0 : hMv P0 := fun x k h => absurd h P0_N

theorem hMi_0 : hMi P0 := ⟨by decide, fun x h => absurd h P0_N, fun x i h => absurd h P0_N, fun x h => absurd h P0_N, fun x i h => absurd h P0_N⟩
theorem hBr_0 : hBr P0 := ⟨fun x y h => absurd h P0_N, fun w _ h => absurd h P0_N, fun v h => absurd h P0_N, fun v w h => absurd h P0_N⟩
theorem HT_0 (T : PT) : HT P0 T := ⟨fun v k h => absurd h P0_N, fun w f _ h => absurd h P0_N, fun v w k h => absurd h P0_N⟩
theorem FCT_0 (T : PT) : FCT P0 T := ⟨⟨GV_0, GC_0, fun y h => absurd h P0_N, fun x s h => absurd h P0_N⟩, ⟨hOr_0, hMi_0, hSp_0, hBr_0, hBt_0⟩, ⟨hLa_0, ⟨hBr_0, hRr_0, hPp_0 T⟩, hP0_0 T, HT_0 T⟩, hMv_0⟩
theorem STP_F {P : GD} {ln : Nat} (h : STP P ln) : ∃ T, FCT P T := by
  rcases h with ⟨_, rfl⟩ | ⟨_, _, T, hG⟩
  · exact ⟨fun _ _ _ => 0, FCT_0 _⟩
  · exact ⟨T, FCT_good hG⟩

