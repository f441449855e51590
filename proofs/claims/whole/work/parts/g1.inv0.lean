theorem EMk_z {c : Nat → Nat → Int} {e : Nat} (z : ∀ q k, q ≤ 13 → c (e + q) k = 0) : EMk c e := by
  refine ⟨fun _ => 0, fun _ => 0, fun _ => 0, fun _ => 0, fun _ => 0, fun _ => 0, fun _ => 0, fun _ => 0, fun _ => 0, fun _ => 0, fun _ => 0, fun _ => 0, fun _ => 0, 0, 0, 0, ?_⟩
  funext a i
  by_cases hq : ∃ q, q ≤ 13 ∧ a = e + q
  · obtain ⟨q, h1, rfl⟩ := hq
    obtain rfl | rfl | rfl | rfl | rfl | rfl | rfl | rfl | rfl | rfl | rfl | rfl | rfl | rfl : q = 0 ∨ q = 1 ∨ q = 2 ∨ q = 3 ∨ q = 4 ∨ q = 5 ∨ q = 6 ∨ q = 7 ∨ q = 8 ∨ q = 9 ∨ q = 10 ∨ q = 11 ∨ q = 12 ∨ q = 13 := by omega
    · have z0 := z 0 i (by omega)
      have z1 : c e i = 0 := z0
      show c e i = _
      simp [em, z1]
    · rw [em_r1, z 1 i (by omega)]; rfl
    · rw [em_r2, z 2 i (by omega)]; rfl
    · rw [em_r3, z 3 i (by omega)]; rfl
    · rw [em_r4, z 4 i (by omega)]; rfl
    · rw [em_r5, z 5 i (by omega)]
    · rw [em_r6, z 6 i (by omega)]; rfl
    · rw [em_r7, z 7 i (by omega)]; rfl
    · rw [em_r8, z 8 i (by omega)]; rfl
    · rw [em_r9, z 9 i (by omega)]; rfl
    · rw [em_r10, z 10 i (by omega)]; rfl
    · rw [em_r11, z 11 i (by omega)]
    · rw [em_r12, z 12 i (by omega)]; rfl
    · rw [em_r13, z 13 i (by omega)]; rfl
  · exact (em_ne (fun k hk h2 => hq ⟨k, hk, h2⟩)).symm
set_option maxHeartbeats 4000000 in
theorem INV_0 {c : Nat → Nat → Int} {T : PT} (h : ∀ i k, i < 78 → c i k = cI i k) : I_T c 0 (fun _ => 0) ∧ I_P c ∧ I_R c 0 0 (fun _ => 0) ∧ I_E c ∧ I_G c 21 35 P0 T 0 (fun _ => 0) ∧ I_Q c P0 T ∧ I_M c 0 0 := by
  have z21 : ∀ q k, q ≤ 13 → c (21 + q) k = 0 := by
    intro q k hq
    rw [h _ _ (by omega), cI, if_neg (by omega)]
  have z35 : ∀ q k, q ≤ 13 → c (35 + q) k = 0 := by
    intro q k hq
    rw [h _ _ (by omega), cI, if_neg (by omega)]
  refine ⟨⟨⟨h 1 1 (by decide), h 49 1 (by decide), by decide⟩, fun _ => (by decide : (0 : Nat) < 256), fun i hi => ⟨h 2 i (by decide), h 50 i (by decide)⟩⟩, ?_, ?_, ⟨EMk_z z21, EMk_z z35⟩, ?_, ?_, ?_⟩
  · refine ⟨⟨0, 0, 0, 0, 0, 0, fun _ => 0, ⟨h 1 2 (by decide), h 1 3 (by decide), h 1 4 (by decide)⟩, ⟨h 3 1 (by decide), h 3 2 (by decide), h 3 3 (by decide)⟩, fun i _ => h 4 i (by decide)⟩, ?_, ?_⟩
    · rw [h 3 3 (by decide), h 49 2 (by decide)]; rfl
    · rw [h 3 4 (by decide), h 49 3 (by decide)]; rfl
  · refine ⟨⟨0, -1, fun _ => 0, 0, 0, 0, 0, false, ⟨h 49 8 (by decide), h 49 9 (by decide), h 49 10 (by decide), h 49 11 (by decide), h 49 12 (by decide), h 49 2 (by decide), h 49 3 (by decide), h 49 4 (by decide), h 49 5 (by decide)⟩, fun i _ => h 51 i (by decide), fun i _ => h 52 i (by decide)⟩, fun _ => 0, fun _ => 0, fun _ => 0, fun _ => 0, fun _ => 0, fun _ => 0, fun _ => 0, fun _ => 0, fun _ => 0, 0, 0, 0, false, ⟨h 49 21 (by decide), h 49 22 (by decide), h 49 23 (by decide), h 49 24 (by decide)⟩, fun i => ⟨h 53 i (by decide), h 54 i (by decide), h 55 i (by decide), h 56 i (by decide), h 57 i (by decide), h 58 i (by decide), h 59 i (by decide), h 60 i (by decide), h 61 i (by decide)⟩⟩
  · refine ⟨Or.inl ⟨rfl, rfl⟩, Or.inl ⟨rfl, rfl⟩, FCT_0 T, fun s t q => absurd q P0_R, fun i _ => (by decide : (0 : Nat) < 100), ?_, ?_, h 0 10 (by decide)⟩
    · exact ⟨⟨h 21 13 (by decide), h 21 14 (by decide), h 21 15 (by decide)⟩, fun s t q => absurd q P0_R, fun x q => absurd q P0_N, fun x s q => absurd q P0_N, fun x y q => absurd q P0_N, fun i q => absurd q P0_M⟩
    · refine ⟨⟨h 49 4 (by decide), h 49 22 (by decide), h 49 21 (by decide), h 49 23 (by decide), ?_, ?_, ?_⟩, fun s t q => absurd q P0_R, fun x q => absurd q P0_N, fun x s q => absurd q P0_N, fun i q => absurd q P0_M⟩
      · rw [h 49 5 (by decide)]; decide
      · rw [h 49 5 (by decide)]; decide
      · rw [h 49 5 (by decide)]; exact ⟨fun q => absurd q (by decide), fun q => absurd q P0_N⟩
  · refine ⟨Or.inl (h 5 1 (by decide)), ⟨fun _ => 0, funext fun k => h 8 k (by decide), Or.inl (h 7 1 (by decide))⟩, Or.inl (h 49 24 (by decide))⟩
  · refine ⟨⟨by decide, by decide, fun _ => rfl, fun q => absurd q (by decide), fun i q => absurd q (by omega)⟩, ⟨h 15 4 (by decide), h 15 5 (by decide), h 49 38 (by decide), h 49 39 (by decide)⟩, fun i q => absurd q (by omega), fun q hq => Or.inl ⟨?_, h 77 q (by decide)⟩⟩
    rw [h 19 q (by decide), cI, if_pos (by omega)]

