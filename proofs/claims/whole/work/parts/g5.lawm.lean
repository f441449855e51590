/-! MARKS: what the acts of both sides do to the invariant -/
theorem RR_r {c c2 : Nat → Nat → Int} {P : GD} {T : PT} (h : RR P T c) (e1 : c2 49 24 = c 49 24) (e2 : c2 64 = c 64) (e3 : c2 65 = c 65) (e4 : c2 66 = c 66) : RR P T c2 := by
  unfold RR RD PD
  rw [e1, e2, e3, e4]
  exact h
theorem MK1_cg {T A : Nat} {f g : Nat → Int} (h : MK1 T A f) (e : ∀ i, i < A → g i = f i) : MK1 T A g := by
  obtain ⟨h1, h2, h3, h4, h5⟩ := h
  refine ⟨h1, h2, h3, fun q => ?_, fun i hi => ?_⟩
  · rw [e 0 q]; exact h4 q
  · rw [e i hi]; exact h5 i hi
def MIg (c : Nat → Nat → Int) (q : Nat) : Prop := (c 19 q = -1 ∧ c 77 q = 0) ∨ (c 77 q = 1 ∧ ∃ T2 A2 : Nat, MK1 T2 A2 (fun i => c 17 (30 * q + i)) ∧ c 19 q = ((A2 : Nat) : Int) ∧ c 75 q = ((A2 : Nat) : Int) ∧ c 18 q = ((T2 : Nat) : Int) ∧ c 74 q = ((T2 : Nat) : Int) ∧ ∀ i, i < A2 → c 76 (30 * q + i) = c 17 (30 * q + i))
theorem I_M_g {c : Nat → Nat → Int} {MT MA : Nat} (h : I_M c MT MA) : ∀ q, q < 3 → MIg c q := h.2.2.2
theorem MIg_row {c c2 : Nat → Nat → Int} {q : Nat} (h : MIg c q) (e17 : ∀ i, i < 30 → c2 17 (30 * q + i) = c 17 (30 * q + i)) (e18 : c2 18 q = c 18 q) (e19 : c2 19 q = c 19 q) (e74 : c2 74 q = c 74 q) (e75 : c2 75 q = c 75 q) (e76 : ∀ i, i < 30 → c2 76 (30 * q + i) = c 76 (30 * q + i)) (e77 : c2 77 q = c 77 q) : MIg c2 q := by
  rcases h with ⟨a1, a2⟩ | ⟨a1, T2, A2, a2, a3, a4, a5, a6, a7⟩
  · left; rw [e19, e77]; exact ⟨a1, a2⟩
  · right
    refine ⟨by rw [e77]; exact a1, T2, A2, MK1_cg a2 (fun i hi => e17 i (by have := a2.2.1; omega)), by rw [e19]; exact a3, by rw [e75]; exact a4, by rw [e18]; exact a5, by rw [e74]; exact a6, fun i hi => ?_⟩
    have b := a2.2.1
    rw [e76 i (by omega), e17 i (by omega)]
    exact a7 i hi
theorem andn_lt {a b : Nat} (h : a < 2 ^ 60) : andn a b < 2 ^ 60 := Nat.xor_lt_two_pow h (Nat.lt_of_le_of_lt Nat.and_le_left h)
theorem gTp_lt {P : GD} {a : Nat} (h : a < 2 ^ 60) : gTp P a < 2 ^ 60 := andn_lt h
set_option maxHeartbeats 2000000 in
theorem INV_act {c : Nat → Nat → Int} {nw nx : Nat} {P : GD} {T : PT} {ln : Nat} {bo : Nat → Nat} {n : Nat} {nb : Nat → Nat} {MT MA : Nat} {d : Nat → Nat → Int} {w : Nat} (h : INV c nw nx P T ln bo n nb MT MA) (hA : MA < 30) (hw : w < 2 ^ 60) (hd : SD (m_act c MA ((w : Nat) : Int)) d) (hr : RR P T d) : INV (m9_act d MT MA ((w : Nat) : Int)) nw nx P T ln bo n nb w (MA + 1) := by
  have hI := h.2.2.2.2.2.2
  obtain ⟨⟨k1, k2, k3, k4, k5⟩, ⟨m1, m2, m3, m4⟩, m5, _⟩ := hI
  have r16 : ∀ i, m_act c MA ((w : Nat) : Int) 16 i = if i = MA then ((MT : Nat) : Int) else c 16 i := by
    intro i
    simp [m_act, up2, m1]
  have o : ∀ a, a ≠ 15 → a ≠ 16 → m_act c MA ((w : Nat) : Int) a = c a := fun a h1 h2 => by
    rw [m_act, up2_off h1, up2_off h1, up2_off h2]
  have o9 : ∀ a, a ≠ 49 → a ≠ 73 → m9_act d MT MA ((w : Nat) : Int) a = d a := fun a h1 h2 => by
    rw [m9_act, up2_off h1, up2_off h1, up2_off h2]
  have f9 : ∀ k, k ≠ 38 → k ≠ 39 → m9_act d MT MA ((w : Nat) : Int) 49 k = d 49 k := fun k h1 h2 => by
    rw [m9_act, up2_ne (Or.inr h1), up2_ne (Or.inr h2), up2_ne (Or.inl (by decide))]
  have r73 : ∀ i, m9_act d MT MA ((w : Nat) : Int) 73 i = if i = MA then ((MT : Nat) : Int) else d 73 i := by
    intro i
    simp [m9_act, up2]
  refine INV_SK h ⟨fun a ha => ?_, fun k h1 h2 h3 h4 => ?_⟩ (RR_r hr (f9 24 (by decide) (by decide)) (o9 64 (by decide) (by decide)) (o9 65 (by decide) (by decide)) (o9 66 (by decide) (by decide))) ⟨⟨hw, by omega, fun q => absurd q (by omega), fun _ => ?_, fun i hi => ?_⟩, ⟨?_, ?_, ?_, ?_⟩, fun i hi => ?_, fun q hq => ?_⟩
  · rw [o9 a (by omega) (by omega), hd.1 a (by omega), o a (by omega) (by omega)]
  · rw [f9 k h3 h4, hd.2 k h1 h2, o 49 (by decide) (by decide)]
  · rw [o9 16 (by decide) (by decide), hd.1 16 (by omega), r16]
    split
    · rename_i e
      rw [k3 e.symm]; rfl
    · exact k4 (by omega)
  · rw [o9 16 (by decide) (by decide), hd.1 16 (by omega), r16]
    split
    · exact ⟨MT, k1, rfl⟩
    · exact k5 i (by omega)
  · rw [o9 15 (by decide) (by decide), hd.1 15 (by omega)]
    simp [m_act, up2]
  · rw [o9 15 (by decide) (by decide), hd.1 15 (by omega)]
    simp [m_act, up2]
  · simp [m9_act, up2]
  · simp [m9_act, up2]
  · rw [r73, hd.1 73 (by omega), o 73 (by decide) (by decide), o9 16 (by decide) (by decide), hd.1 16 (by omega), r16]
    split
    · rfl
    · exact m5 i (by omega)
  · have e : ∀ a, a = 17 ∨ a = 18 ∨ a = 19 ∨ a = 74 ∨ a = 75 ∨ a = 76 ∨ a = 77 → m9_act d MT MA ((w : Nat) : Int) a = c a := fun a ha => by
      rw [o9 a (by omega) (by omega), hd.1 a (by omega), o a (by omega) (by omega)]
    exact MIg_row (I_M_g h.2.2.2.2.2.2 q hq) (fun i _ => by rw [e 17 (by omega)]) (by rw [e 18 (by omega)]) (by rw [e 19 (by omega)]) (by rw [e 74 (by omega)]) (by rw [e 75 (by omega)]) (fun i _ => by rw [e 76 (by omega)]) (by rw [e 77 (by omega)])
/-- both sides have done nothing, or one act -/
def EMA (c2 : Nat → Nat → Int) (nw nx : Nat) (P : GD) (T : PT) (ln : Nat) (bo : Nat → Nat) (n : Nat) (nb : Nat → Nat) : Prop := ∃ MT MA : Nat, INV c2 nw nx P T ln bo n nb MT MA

theorem m_act_off (c : Nat → Nat → Int) (A : Nat) (w : Int) (a : Nat) (h : a < 15 ∨ 19 < a) : m_act c A w a = c a := by
  rw [m_act, up2_off (by omega), up2_off (by omega), up2_off (by omega)]
theorem m_mark_off (P : GD) (MT MA : Nat) (x : Int) (c : Nat → Nat → Int) (a : Nat) (h : a < 15 ∨ 19 < a) : m_mark P MT MA x c a = c a := by
  unfold m_mark
  split
  · exact m_act_off c MA _ a h
  · rfl
theorem m_shift_off (P : GD) (MT MA : Nat) (x : Int) (c : Nat → Nat → Int) (a : Nat) (h : a < 15 ∨ 19 < a) : m_shift P MT MA x c a = c a := by
  unfold m_shift
  split
  · exact m_act_off c MA _ a h
  · rfl
theorem m_thin_off (P : GD) (MT MA : Nat) (c : Nat → Nat → Int) (a : Nat) (h : a < 15 ∨ 19 < a) : m_thin P MT MA c a = c a := by
  unfold m_thin
  split
  · exact m_act_off c MA _ a h
  · rfl
theorem m_undo_off (P : GD) (MA : Nat) (c : Nat → Nat → Int) (a : Nat) (h : a < 15 ∨ 19 < a) : m_undo P MA c a = c a := by
  unfold m_undo
  split
  · rw [up2_off (by omega), up2_off (by omega)]
  · rfl
theorem m_anew_off (P : GD) (c : Nat → Nat → Int) (a : Nat) (h : a < 15 ∨ 19 < a) : m_anew P c a = c a := by
  unfold m_anew
  split
  · rfl
  · rw [up2_off (by omega), up2_off (by omega)]
theorem m_image_off (P : GD) (MA : Nat) (x : Int) (c : Nat → Nat → Int) (a : Nat) (h : a < 15 ∨ 19 < a) : m_image P MA x c a = c a := by
  unfold m_image
  split
  · funext k
    rw [m_keep, cpK_off _ _ _ _ _ (by omega), up2_ne (Or.inl (by omega)), up2_ne (Or.inl (by omega))]
  · rfl
theorem m_back_off (P : GD) (x I : Int) (c : Nat → Nat → Int) (a : Nat) (h : a < 15 ∨ 19 < a) : m_back P x I c a = c a := by
  unfold m_back
  split
  · funext k
    rw [m_bring, cpB_off _ _ _ _ _ (by omega), up2_ne (Or.inl (by omega)), up2_ne (Or.inl (by omega))]
  · rfl
theorem INV_mark {c : Nat → Nat → Int} {nw nx : Nat} {P : GD} {T : PT} {ln : Nat} {bo : Nat → Nat} {n : Nat} {nb : Nat → Nat} {MT MA : Nat} (h : INV c nw nx P T ln bo n nb MT MA) (x : Int) : EMA (m9_mark P MT MA x (m_mark P MT MA x c)) nw nx P T ln bo n nb := by
  by_cases q : (0 ≤ x ∧ x < (gN P : Int)) ∧ MA < 30
  · have hV := h.2.2.2.2.1.2.2.1.1.1
    have h1 := h.2.2.2.2.2.2.1.1
    have b : x.toNat < 60 := by have := GV_N hV; omega
    have hw : (MT ^^^ (1 * 2 ^ x.toNat)) < 2 ^ 60 := Nat.xor_lt_two_pow h1 (by rw [Nat.one_mul]; exact Nat.pow_lt_pow_right (by decide) b)
    refine ⟨MT ^^^ (1 * 2 ^ x.toNat), MA + 1, ?_⟩
    rw [m_mark, if_pos q, m9_mark, if_pos q]
    exact INV_act h q.2 hw SD_rf (RR_row h.2.2.2.2.2.1.2.2 (fun a ha _ => m_act_off c MA _ a (by omega)))
  · exact ⟨MT, MA, by rw [m_mark, if_neg q, m9_mark, if_neg q]; exact h⟩
theorem INV_shift {c : Nat → Nat → Int} {nw nx : Nat} {P : GD} {T : PT} {ln : Nat} {bo : Nat → Nat} {n : Nat} {nb : Nat → Nat} {MT MA : Nat} (h : INV c nw nx P T ln bo n nb MT MA) (x : Int) : EMA (m9_shift P MT MA x (m_shift P MT MA x c)) nw nx P T ln bo n nb := by
  by_cases q : (0 ≤ x ∧ x < (gR P : Int)) ∧ MA < 30
  · have hV := h.2.2.2.2.1.2.2.1.1.1
    have hw : gAll P MT x.toNat (gN P) < 2 ^ 60 := gAll_lt hV (by omega) (gN P) (Nat.le_refl _)
    refine ⟨gAll P MT x.toNat (gN P), MA + 1, ?_⟩
    rw [m_shift, if_pos q, m9_shift, if_pos q]
    exact INV_act h q.2 hw SD_rf (RR_row h.2.2.2.2.2.1.2.2 (fun a ha _ => m_act_off c MA _ a (by omega)))
  · exact ⟨MT, MA, by rw [m_shift, if_neg q, m9_shift, if_neg q]; exact h⟩
theorem INV_thin {c : Nat → Nat → Int} {nw nx : Nat} {P : GD} {T : PT} {ln : Nat} {bo : Nat → Nat} {n : Nat} {nb : Nat → Nat} {MT MA : Nat} (h : INV c nw nx P T ln bo n nb MT MA) {c2 : Nat → Nat → Int} (hq : ∃ d : Nat → Nat → Int, SD (m_thin P MT MA c) d ∧ RR P T d ∧ c2 = m9_thin P MT MA d) : EMA c2 nw nx P T ln bo n nb := by
  obtain ⟨d, hd, hr, rfl⟩ := hq
  by_cases q : ¬ gN P = 0 ∧ MA < 30
  · have h1 := h.2.2.2.2.2.2.1.1
    refine ⟨gTp P MT, MA + 1, ?_⟩
    rw [m_thin, if_pos q] at hd
    rw [m9_thin, if_pos q]
    exact INV_act h q.2 (gTp_lt h1) hd hr
  · rw [m_thin, if_neg q] at hd
    exact ⟨MT, MA, by rw [m9_thin, if_neg q]; exact INV_SD h hd hr⟩
theorem c9_thin {G : GG} {j nw nx gn : Nat} {g : Nat → Sh} {c : Nat → Nat → Int} {post : Option AV → AM → Prop} {P : GD} {T : PT} {T9 A9 : Nat} (hM : ML c P) (hV : GV P) (hC : GC P) (hG : GP P T) (hR : RR P T c) (hT9 : c 49 38 = ((T9 : Nat) : Int)) (hA9 : c 49 39 = ((A9 : Nat) : Int)) (hd : hDn P) (h2 : T9 < 2 ^ 60) (hA30 : A9 ≤ 30) (K : ∀ c2 : Nat → Nat → Int, (∃ d : Nat → Nat → Int, SD c d ∧ RR P T d ∧ c2 = m9_thin P T9 A9 d) → post (some (vi (q_thin P T9 A9))) (S nw nx g, 78 + gn, c2)) : SM G (j + 6) mX9_thin [vr 49] (S nw nx g, 78 + gn, c) 0 0 post :=
  c_X9_thin hM hV hC hG hR hT9 hA9 hd h2 hA30 (fun c2 q => K _ ⟨c2, q.1, q.2, rfl⟩)

set_option maxHeartbeats 2000000 in
theorem INV_undo {c : Nat → Nat → Int} {nw nx : Nat} {P : GD} {T : PT} {ln : Nat} {bo : Nat → Nat} {n : Nat} {nb : Nat → Nat} {MT MA : Nat} (h : INV c nw nx P T ln bo n nb MT MA) : EMA (m9_undo P MA (m_undo P MA c)) nw nx P T ln bo n nb := by
  by_cases q : ¬ gN P = 0 ∧ ¬ MA = 0
  · obtain ⟨⟨k1, k2, k3, k4, k5⟩, ⟨m1, m2, m3, m4⟩, m5, _⟩ := h.2.2.2.2.2.2
    obtain ⟨t, ht, et⟩ := k5 (MA - 1) (by omega)
    refine ⟨t, MA - 1, ?_⟩
    rw [m_undo, if_pos q, m9_undo, if_pos q]
    have o : ∀ a, a ≠ 15 → a ≠ 49 → up2 (up2 (up2 (up2 c 15 5 ((MA - 1 : Nat) : Int)) 15 4 (c 16 (MA - 1))) 49 39 ((MA - 1 : Nat) : Int)) 49 38 (up2 (up2 c 15 5 ((MA - 1 : Nat) : Int)) 15 4 (c 16 (MA - 1)) 73 (MA - 1)) a = c a := fun a h1 h2 => by
      rw [up2_off h2, up2_off h2, up2_off h1, up2_off h1]
    have o9 : ∀ k, k ≠ 38 → k ≠ 39 → up2 (up2 (up2 (up2 c 15 5 ((MA - 1 : Nat) : Int)) 15 4 (c 16 (MA - 1))) 49 39 ((MA - 1 : Nat) : Int)) 49 38 (up2 (up2 c 15 5 ((MA - 1 : Nat) : Int)) 15 4 (c 16 (MA - 1)) 73 (MA - 1)) 49 k = c 49 k := fun k h1 h2 => by
      rw [up2_ne (Or.inr h1), up2_ne (Or.inr h2), up2_ne (Or.inl (by decide)), up2_ne (Or.inl (by decide))]
    refine INV_SK h ⟨fun a ha => o a (by omega) (by omega), fun k _ _ h3 h4 => o9 k h3 h4⟩ (RR_r h.2.2.2.2.2.1.2.2 (o9 24 (by decide) (by decide)) (o 64 (by decide) (by decide)) (o 65 (by decide) (by decide)) (o 66 (by decide) (by decide))) ⟨⟨ht, by omega, fun z => ?_, fun _ => ?_, fun i hi => ?_⟩, ⟨?_, ?_, ?_, ?_⟩, fun i hi => ?_, fun qq hq => ?_⟩
    · rw [z] at et
      have := k4 (by omega)
      omega
    · rw [o 16 (by decide) (by decide)]; exact k4 (by omega)
    · rw [o 16 (by decide) (by decide)]; exact k5 i (by omega)
    · simp [up2, et]
    · simp [up2]
    · have := m5 (MA - 1) (by omega)
      simp [up2, this, et]
    · simp [up2]
    · rw [o 73 (by decide) (by decide), o 16 (by decide) (by decide)]; exact m5 i (by omega)
    · exact MIg_row (I_M_g h.2.2.2.2.2.2 qq hq) (fun i _ => by rw [o 17 (by decide) (by decide)]) (by rw [o 18 (by decide) (by decide)]) (by rw [o 19 (by decide) (by decide)]) (by rw [o 74 (by decide) (by decide)]) (by rw [o 75 (by decide) (by decide)]) (fun i _ => by rw [o 76 (by decide) (by decide)]) (by rw [o 77 (by decide) (by decide)])
  · exact ⟨MT, MA, by rw [m_undo, if_neg q, m9_undo, if_neg q]; exact h⟩
set_option maxHeartbeats 2000000 in
theorem INV_anew {c : Nat → Nat → Int} {nw nx : Nat} {P : GD} {T : PT} {ln : Nat} {bo : Nat → Nat} {n : Nat} {nb : Nat → Nat} {MT MA : Nat} (h : INV c nw nx P T ln bo n nb MT MA) : EMA (m9_anew P MA (m_anew P c)) nw nx P T ln bo n nb := by
  by_cases q : gN P = 0
  · exact ⟨MT, MA, by rw [m_anew, if_pos q, m9_anew, if_pos q]; exact h⟩
  · obtain ⟨⟨k1, k2, k3, k4, k5⟩, ⟨m1, m2, m3, m4⟩, m5, _⟩ := h.2.2.2.2.2.2
    refine ⟨0, 0, ?_⟩
    rw [m_anew, if_neg q, m9_anew, if_neg q]
    have ez : (if 0 < MA then up2 (up2 c 15 4 0) 15 5 0 73 0 else up2 (up2 c 15 4 0) 15 5 0 49 38) = 0 := by
      split
      · rename_i z
        rw [up2_ne (Or.inl (by decide)), up2_ne (Or.inl (by decide)), m5 0 z]; exact k4 z
      · rw [up2_ne (Or.inl (by decide)), up2_ne (Or.inl (by decide)), m3, k3 (by omega)]; rfl
    rw [ez]
    have o : ∀ a, a ≠ 15 → a ≠ 49 → up2 (up2 (up2 (up2 c 15 4 0) 15 5 0) 49 38 0) 49 39 0 a = c a := fun a h1 h2 => by
      rw [up2_off h2, up2_off h2, up2_off h1, up2_off h1]
    have o9 : ∀ k, k ≠ 38 → k ≠ 39 → up2 (up2 (up2 (up2 c 15 4 0) 15 5 0) 49 38 0) 49 39 0 49 k = c 49 k := fun k h1 h2 => by
      rw [up2_ne (Or.inr h2), up2_ne (Or.inr h1), up2_ne (Or.inl (by decide)), up2_ne (Or.inl (by decide))]
    refine INV_SK h ⟨fun a ha => o a (by omega) (by omega), fun k _ _ h3 h4 => o9 k h3 h4⟩ (RR_r h.2.2.2.2.2.1.2.2 (o9 24 (by decide) (by decide)) (o 64 (by decide) (by decide)) (o 65 (by decide) (by decide)) (o 66 (by decide) (by decide))) ⟨⟨by decide, by decide, fun _ => rfl, fun z => absurd z (by decide), fun i hi => absurd hi (Nat.not_lt_zero _)⟩, ⟨?_, ?_, ?_, ?_⟩, fun i hi => absurd hi (Nat.not_lt_zero _), fun qq hq => ?_⟩
    · simp [up2]
    · simp [up2]
    · simp [up2]
    · simp [up2]
    · exact MIg_row (I_M_g h.2.2.2.2.2.2 qq hq) (fun i _ => by rw [o 17 (by decide) (by decide)]) (by rw [o 18 (by decide) (by decide)]) (by rw [o 19 (by decide) (by decide)]) (by rw [o 74 (by decide) (by decide)]) (by rw [o 75 (by decide) (by decide)]) (fun i _ => by rw [o 76 (by decide) (by decide)]) (by rw [o 77 (by decide) (by decide)])

theorem cpK_17 (c : Nat → Nat → Int) (q : Nat) : ∀ A k, cpK c q A 17 k = if 30 * q ≤ k ∧ k < 30 * q + A then c 16 (k - 30 * q) else c 17 k := by
  intro A
  induction A with
  | zero => intro k; rw [if_neg (by omega)]; rfl
  | succ A ih =>
    intro k
    rw [cpK]
    by_cases e : k = q * 30 + A
    · subst e
      rw [up2_eq, if_pos (by omega)]
      congr 1; omega
    · rw [up2_ne (Or.inr e), ih k]
      by_cases e2 : 30 * q ≤ k ∧ k < 30 * q + A
      · rw [if_pos e2, if_pos (by omega)]
      · rw [if_neg e2, if_neg (by omega)]
theorem cp9_76 (c : Nat → Nat → Int) (q : Nat) : ∀ A k, cp9 c q A 76 k = if 30 * q ≤ k ∧ k < 30 * q + A then c 73 (k - 30 * q) else c 76 k := by
  intro A
  induction A with
  | zero => intro k; rw [if_neg (by omega)]; rfl
  | succ A ih =>
    intro k
    rw [cp9]
    by_cases e : k = 30 * q + A
    · subst e
      rw [up2_eq, if_pos (by omega)]
      congr 1; omega
    · rw [up2_ne (Or.inr e), ih k]
      by_cases e2 : 30 * q ≤ k ∧ k < 30 * q + A
      · rw [if_pos e2, if_pos (by omega)]
      · rw [if_neg e2, if_neg (by omega)]
theorem cpB_16 (c : Nat → Nat → Int) (q : Nat) : ∀ A k, cpB c q A 16 k = if k < A then c 17 (30 * q + k) else c 16 k := by
  intro A
  induction A with
  | zero => intro k; rw [if_neg (by omega)]; rfl
  | succ A ih =>
    intro k
    rw [cpB]
    by_cases e : k = A
    · subst e
      rw [up2_eq, if_pos (by omega), Nat.mul_comm q 30]
    · rw [up2_ne (Or.inr e), ih k]
      by_cases e2 : k < A
      · rw [if_pos e2, if_pos (by omega)]
      · rw [if_neg e2, if_neg (by omega)]
theorem cb9_73 (c : Nat → Nat → Int) (q : Nat) : ∀ A k, cb9 c q A 73 k = if k < A then c 76 (30 * q + k) else c 73 k := by
  intro A
  induction A with
  | zero => intro k; rw [if_neg (by omega)]; rfl
  | succ A ih =>
    intro k
    rw [cb9]
    by_cases e : k = A
    · subst e
      rw [up2_eq, if_pos (by omega)]
    · rw [up2_ne (Or.inr e), ih k]
      by_cases e2 : k < A
      · rw [if_pos e2, if_pos (by omega)]
      · rw [if_neg e2, if_neg (by omega)]
set_option maxHeartbeats 4000000 in
theorem INV_image {c : Nat → Nat → Int} {nw nx : Nat} {P : GD} {T : PT} {ln : Nat} {bo : Nat → Nat} {n : Nat} {nb : Nat → Nat} {MT MA : Nat} (h : INV c nw nx P T ln bo n nb MT MA) (x : Int) : EMA (m9_image P MT MA x (m_image P MA x c)) nw nx P T ln bo n nb := by
  by_cases z : ¬ gN P = 0 ∧ 0 ≤ x ∧ x < 3
  · obtain ⟨⟨k1, k2, k3, k4, k5⟩, ⟨m1, m2, m3, m4⟩, m5, _⟩ := h.2.2.2.2.2.2
    refine ⟨MT, MA, ?_⟩
    rw [m_image, if_pos z, m9_image, if_pos z]
    obtain ⟨q, rfl⟩ : ∃ q : Nat, x = (q : Int) := ⟨x.toNat, by omega⟩
    rw [Int.toNat_natCast]
    have hq3 : q < 3 := by omega
    have e1 : ∀ a k, a ≠ 17 → a ≠ 18 → a ≠ 19 → m_keep c MA q a k = c a k := fun a k h1 h2 h3 => by
      rw [m_keep, cpK_off _ _ _ _ _ h1, up2_ne (Or.inl h3), up2_ne (Or.inl h2)]
    have e17 : ∀ k, m_keep c MA q 17 k = if 30 * q ≤ k ∧ k < 30 * q + MA then c 16 (k - 30 * q) else c 17 k := fun k => by
      rw [m_keep, cpK_17]
      simp only [up2_off (show (16 : Nat) ≠ 19 by decide), up2_off (show (16 : Nat) ≠ 18 by decide), up2_off (show (17 : Nat) ≠ 19 by decide), up2_off (show (17 : Nat) ≠ 18 by decide)]
    have e18 : ∀ k, m_keep c MA q 18 k = if k = q then ((MT : Nat) : Int) else c 18 k := fun k => by
      rw [m_keep, cpK_off _ _ _ _ _ (by decide), up2_ne (Or.inl (by decide)), m1]
      simp [up2]
    have e19 : ∀ k, m_keep c MA q 19 k = if k = q then ((MA : Nat) : Int) else c 19 k := fun k => by
      rw [m_keep, cpK_off _ _ _ _ _ (by decide)]
      simp [up2]
    generalize hc1 : m_keep c MA q = c1 at e1 e17 e18 e19 ⊢
    generalize hc2 : cp9 (up2 (up2 (up2 c1 74 q ((MT : Nat) : Int)) 75 q ((MA : Nat) : Int)) 77 q 1) q 30 = c2
    have o : ∀ a k, a ≠ 74 → a ≠ 75 → a ≠ 76 → a ≠ 77 → c2 a k = c1 a k := fun a k h1 h2 h3 h4 => by
      rw [← hc2, cp9_off _ _ _ _ _ h3, up2_ne (Or.inl h4), up2_ne (Or.inl h2), up2_ne (Or.inl h1)]
    have o76 : ∀ k, c2 76 k = if 30 * q ≤ k ∧ k < 30 * q + 30 then c1 73 (k - 30 * q) else c1 76 k := fun k => by
      rw [← hc2, cp9_76]
      simp only [up2_off (show (73 : Nat) ≠ 77 by decide), up2_off (show (73 : Nat) ≠ 75 by decide), up2_off (show (73 : Nat) ≠ 74 by decide), up2_off (show (76 : Nat) ≠ 77 by decide), up2_off (show (76 : Nat) ≠ 75 by decide), up2_off (show (76 : Nat) ≠ 74 by decide)]
    have o74 : ∀ k, c2 74 k = if k = q then ((MT : Nat) : Int) else c1 74 k := fun k => by
      rw [← hc2, cp9_off _ _ _ _ _ (by decide)]
      simp [up2]
    have o75 : ∀ k, c2 75 k = if k = q then ((MA : Nat) : Int) else c1 75 k := fun k => by
      rw [← hc2, cp9_off _ _ _ _ _ (by decide)]
      simp [up2]
    have o77 : ∀ k, c2 77 k = if k = q then 1 else c1 77 k := fun k => by
      rw [← hc2, cp9_off _ _ _ _ _ (by decide)]
      simp [up2]
    have g : ∀ a k, (a < 17 ∨ 19 < a) → (a < 74 ∨ 77 < a) → c2 a k = c a k := fun a k h1 h2 => by
      rw [o a k (by omega) (by omega) (by omega) (by omega), e1 a k (by omega) (by omega) (by omega)]
    have gr : ∀ a, (a < 17 ∨ 19 < a) → (a < 74 ∨ 77 < a) → c2 a = c a := fun a h1 h2 => funext (fun k => g a k h1 h2)
    refine INV_SK h ⟨fun a ha => gr a (by omega) (by omega), fun k _ _ _ _ => g 49 k (by omega) (by omega)⟩ (RR_r h.2.2.2.2.2.1.2.2 (g 49 24 (by omega) (by omega)) (gr 64 (by omega) (by omega)) (gr 65 (by omega) (by omega)) (gr 66 (by omega) (by omega))) ⟨MK1_cg ⟨k1, k2, k3, k4, k5⟩ (fun i _ => g 16 i (by omega) (by omega)), ⟨?_, ?_, ?_, ?_⟩, fun i hi => ?_, fun qq hq => ?_⟩
    · rw [g 15 4 (by omega) (by omega)]; exact m1
    · rw [g 15 5 (by omega) (by omega)]; exact m2
    · rw [g 49 38 (by omega) (by omega)]; exact m3
    · rw [g 49 39 (by omega) (by omega)]; exact m4
    · rw [g 73 i (by omega) (by omega), g 16 i (by omega) (by omega)]; exact m5 i hi
    · by_cases e : qq = q
      · subst e
        have a17 : ∀ i, i < MA → c2 17 (30 * qq + i) = c 16 i := fun i hi => by
          rw [o 17 _ (by decide) (by decide) (by decide) (by decide), e17, if_pos (by omega)]
          congr 1; omega
        refine Or.inr ⟨?_, MT, MA, MK1_cg ⟨k1, k2, k3, k4, k5⟩ (fun i hi => a17 i hi), ?_, ?_, ?_, ?_, fun i hi => ?_⟩
        · rw [o77, if_pos rfl]
        · rw [o 19 _ (by decide) (by decide) (by decide) (by decide), e19, if_pos rfl]
        · rw [o75, if_pos rfl]
        · rw [o 18 _ (by decide) (by decide) (by decide) (by decide), e18, if_pos rfl]
        · rw [o74, if_pos rfl]
        · rw [a17 i hi, o76, if_pos (by omega), e1 73 _ (by decide) (by decide) (by decide), show 30 * qq + i - 30 * qq = i by omega]
          exact m5 i hi
      · refine MIg_row (I_M_g h.2.2.2.2.2.2 qq hq) (fun i hi => ?_) ?_ ?_ ?_ ?_ (fun i hi => ?_) ?_
        · rw [o 17 _ (by decide) (by decide) (by decide) (by decide), e17, if_neg (by omega)]
        · rw [o 18 _ (by decide) (by decide) (by decide) (by decide), e18, if_neg e]
        · rw [o 19 _ (by decide) (by decide) (by decide) (by decide), e19, if_neg e]
        · rw [o74, if_neg e, e1 74 _ (by decide) (by decide) (by decide)]
        · rw [o75, if_neg e, e1 75 _ (by decide) (by decide) (by decide)]
        · rw [o76, if_neg (by omega), e1 76 _ (by decide) (by decide) (by decide)]
        · rw [o77, if_neg e, e1 77 _ (by decide) (by decide) (by decide)]
  · exact ⟨MT, MA, by rw [m_image, if_neg z, m9_image, if_neg z]; exact h⟩

def bkI (c : Nat → Nat → Int) (x : Int) : Int := if 0 ≤ x ∧ x < 3 then c 19 x.toNat else -1
def bkH (c : Nat → Nat → Int) (x : Int) : Int := if 0 ≤ x ∧ x < 3 then c 77 x.toNat else 0
theorem bk_1 {c : Nat → Nat → Int} {MT MA : Nat} (h : I_M c MT MA) (x : Int) (h0 : 0 ≤ x) (h3 : x < 3) : c 19 x.toNat = bkI c x ∧ -1 ≤ bkI c x ∧ bkI c x ≤ 30 := by
  rw [bkI, if_pos ⟨h0, h3⟩]
  rcases I_M_g h x.toNat (by omega) with ⟨a1, _⟩ | ⟨_, T2, A2, a2, a3, _⟩
  · rw [a1]; decide
  · have := a2.2.1
    rw [a3]; exact ⟨rfl, by omega, by omega⟩
theorem bk_2 {c : Nat → Nat → Int} {MT MA : Nat} (h : I_M c MT MA) (x : Int) (h0 : 0 ≤ x) (h3 : x < 3) : c 77 x.toNat = bkH c x ∧ (bkH c x = 0 ∨ bkH c x = 1) := by
  rw [bkH, if_pos ⟨h0, h3⟩]
  rcases I_M_g h x.toNat (by omega) with ⟨_, a1⟩ | ⟨a1, _⟩
  · exact ⟨rfl, Or.inl a1⟩
  · exact ⟨rfl, Or.inr a1⟩
theorem bk_3 {c : Nat → Nat → Int} {MT MA : Nat} (h : I_M c MT MA) (x : Int) : bkI c x = -1 ↔ ¬ bkH c x = 1 := by
  by_cases z : 0 ≤ x ∧ x < 3
  · rw [bkI, bkH, if_pos z, if_pos z]
    rcases I_M_g h x.toNat (by omega) with ⟨a1, a2⟩ | ⟨a1, T2, A2, _, a3, _⟩
    · rw [a1, a2]; decide
    · rw [a1, a3]
      constructor
      · intro q; omega
      · intro q; exact absurd rfl q
  · rw [bkI, bkH, if_neg z, if_neg z]; decide
set_option maxHeartbeats 4000000 in
theorem INV_back {c : Nat → Nat → Int} {nw nx : Nat} {P : GD} {T : PT} {ln : Nat} {bo : Nat → Nat} {n : Nat} {nb : Nat → Nat} {MT MA : Nat} (h : INV c nw nx P T ln bo n nb MT MA) (x : Int) : EMA (m9_back P x (bkH c x) (m_back P x (bkI c x) c)) nw nx P T ln bo n nb := by
  have hI := h.2.2.2.2.2.2
  by_cases z : (¬ gN P = 0 ∧ 0 ≤ x ∧ x < 3) ∧ bkH c x = 1
  · have z2 : (¬ gN P = 0 ∧ 0 ≤ x ∧ x < 3) ∧ ¬ bkI c x = -1 := ⟨z.1, fun q => (bk_3 hI x).mp q z.2⟩
    rw [m_back, if_pos z2, m9_back, if_pos z]
    have eI : bkI c x = c 19 x.toNat := (bk_1 hI x z.1.2.1 z.1.2.2).1.symm
    have eH : bkH c x = c 77 x.toNat := (bk_2 hI x z.1.2.1 z.1.2.2).1.symm
    rw [eI]
    have h77 : c 77 x.toNat = 1 := eH ▸ z.2
    obtain ⟨q, rfl⟩ : ∃ q : Nat, x = (q : Int) := ⟨x.toNat, by omega⟩
    rw [Int.toNat_natCast] at h77 ⊢
    have hq3 : q < 3 := by omega
    rcases I_M_g hI q hq3 with ⟨_, a2⟩ | ⟨_, T2, A2, a2, a3, a4, a5, a6, a7⟩
    · rw [a2] at h77; exact absurd h77 (by decide)
    · refine ⟨T2, A2, ?_⟩
      have b30 := a2.2.1
      rw [a3, Int.toNat_natCast]
      have e1 : ∀ a k, a ≠ 15 → a ≠ 16 → m_bring c A2 q a k = c a k := fun a k h1 h2 => by
        rw [m_bring, cpB_off _ _ _ _ _ h2, up2_ne (Or.inl h1), up2_ne (Or.inl h1)]
      have e16 : ∀ k, m_bring c A2 q 16 k = if k < A2 then c 17 (30 * q + k) else c 16 k := fun k => by
        rw [m_bring, cpB_16]
        simp only [up2_off (show (16 : Nat) ≠ 15 by decide), up2_off (show (17 : Nat) ≠ 15 by decide)]
      have e154 : m_bring c A2 q 15 4 = ((T2 : Nat) : Int) := by
        rw [m_bring, cpB_off _ _ _ _ _ (by decide), up2_ne (Or.inr (by decide)), up2_eq]; exact a5
      have e155 : m_bring c A2 q 15 5 = ((A2 : Nat) : Int) := by
        rw [m_bring, cpB_off _ _ _ _ _ (by decide), up2_eq]
      generalize m_bring c A2 q = c1 at e1 e16 e154 e155 ⊢
      have e74 : c1 74 q = ((T2 : Nat) : Int) := (e1 74 q (by decide) (by decide)).trans a6
      have e75 : c1 75 q = ((A2 : Nat) : Int) := (e1 75 q (by decide) (by decide)).trans a4
      rw [e74, e75]
      generalize hc2 : cb9 (up2 (up2 c1 49 38 ((T2 : Nat) : Int)) 49 39 ((A2 : Nat) : Int)) q 30 = c2
      have o : ∀ a k, a ≠ 49 → a ≠ 73 → c2 a k = c1 a k := fun a k h1 h2 => by
        rw [← hc2, cb9_off _ _ _ _ _ h2, up2_ne (Or.inl h1), up2_ne (Or.inl h1)]
      have o73 : ∀ k, c2 73 k = if k < 30 then c1 76 (30 * q + k) else c1 73 k := fun k => by
        rw [← hc2, cb9_73]
        simp only [up2_off (show (73 : Nat) ≠ 49 by decide), up2_off (show (76 : Nat) ≠ 49 by decide)]
      have o49 : ∀ k, k ≠ 38 → k ≠ 39 → c2 49 k = c1 49 k := fun k h1 h2 => by
        rw [← hc2, cb9_off _ _ _ _ _ (by decide), up2_ne (Or.inr h2), up2_ne (Or.inr h1)]
      have o38 : c2 49 38 = ((T2 : Nat) : Int) := by
        rw [← hc2, cb9_off _ _ _ _ _ (by decide), up2_ne (Or.inr (by decide)), up2_eq]
      have o39 : c2 49 39 = ((A2 : Nat) : Int) := by
        rw [← hc2, cb9_off _ _ _ _ _ (by decide), up2_eq]
      have g : ∀ a k, a ≠ 15 → a ≠ 16 → a ≠ 49 → a ≠ 73 → c2 a k = c a k := fun a k h1 h2 h3 h4 => by
        rw [o a k h3 h4, e1 a k h1 h2]
      have gr : ∀ a, a ≠ 15 → a ≠ 16 → a ≠ 49 → a ≠ 73 → c2 a = c a := fun a h1 h2 h3 h4 => funext (fun k => g a k h1 h2 h3 h4)
      have e16' : ∀ i, i < A2 → c2 16 i = c 17 (30 * q + i) := fun i hi => by
        rw [o 16 i (by decide) (by decide), e16, if_pos hi]
      refine INV_SK h ⟨fun a ha => gr a (by omega) (by omega) (by omega) (by omega), fun k _ _ h3 h4 => ?_⟩ (RR_r h.2.2.2.2.2.1.2.2 ?_ (gr 64 (by decide) (by decide) (by decide) (by decide)) (gr 65 (by decide) (by decide) (by decide) (by decide)) (gr 66 (by decide) (by decide) (by decide) (by decide))) ⟨MK1_cg a2 (fun i hi => e16' i hi), ⟨?_, ?_, o38, o39⟩, fun i hi => ?_, fun qq hq => ?_⟩
      · rw [o49 k h3 h4, e1 49 k (by decide) (by decide)]
      · rw [o49 24 (by decide) (by decide), e1 49 24 (by decide) (by decide)]
      · rw [o 15 4 (by decide) (by decide)]; exact e154
      · rw [o 15 5 (by decide) (by decide)]; exact e155
      · rw [e16' i hi, o73, if_pos (by omega), e1 76 _ (by decide) (by decide)]
        exact a7 i hi
      · refine MIg_row (I_M_g hI qq hq) (fun i hi => g 17 _ (by decide) (by decide) (by decide) (by decide)) (g 18 _ (by decide) (by decide) (by decide) (by decide)) (g 19 _ (by decide) (by decide) (by decide) (by decide)) (g 74 _ (by decide) (by decide) (by decide) (by decide)) (g 75 _ (by decide) (by decide) (by decide) (by decide)) (fun i hi => g 76 _ (by decide) (by decide) (by decide) (by decide)) (g 77 _ (by decide) (by decide) (by decide) (by decide))
  · refine ⟨MT, MA, ?_⟩
    rw [m9_back, if_neg z]
    have z2 : ¬ ((¬ gN P = 0 ∧ 0 ≤ x ∧ x < 3) ∧ ¬ bkI c x = -1) := fun q => z ⟨q.1, Decidable.byContradiction (fun w => q.2 ((bk_3 hI x).mpr w))⟩
    rw [m_back, if_neg z2]
    exact h

