/-- what is reckoned of a good table's roots -/
def FI (P : GD) (bo im0 : Nat → Nat) : Prop :=
  (∀ y, 0 < y → y < gN P → gS P (gH P y) (gA P y) = y) ∧
  (∀ x s, x < gN P → s < gR P → gS P x s = 0 ∨ 5 * gH P (gS P x s) + gA P (gS P x s) ≤ 5 * x + s) ∧
  (∀ y, 0 < y → y + 1 < gN P → 5 * gH P y + gA P y < 5 * gH P (y + 1) + gA P (y + 1)) ∧
  (∀ q i, q < gR P → i < gR P → im0 (5 * q + i) = if q = i then 1 else 0) ∧
  (∀ x s q i, x < gN P → s < gR P → q < gR P → i < gR P → im0 (25 * gS P x s + 5 * q + i) = stp bo im0 x s q i) ∧
  (∀ y z, y < gN P → z < gN P → SAM (gR P) im0 y z → y = z)
theorem FI_key {P : GD} {bo im0 : Nat → Nat} (h : FI P bo im0) : ∀ k y, 0 < y → y + k + 1 < gN P → 5 * gH P y + gA P y < 5 * gH P (y + k + 1) + gA P (y + k + 1) := by
  intro k
  induction k with
  | zero => intro y h0 h1; exact h.2.2.1 y h0 h1
  | succ k ih =>
    intro y h0 h1
    have a := ih y h0 (by omega)
    have b := h.2.2.1 (y + k + 1) (by omega) (by omega)
    exact Nat.lt_trans a b
def GIv (P : GD) (im0 im bh lo fr la : Nat → Nat) (nn x s : Nat) : Prop :=
  (1 ≤ nn ∧ nn ≤ gN P) ∧ (∀ y q i, y < nn → q < gR P → i < gR P → im (25 * y + 5 * q + i) = im0 (25 * y + 5 * q + i)) ∧
  (∀ y, y < nn → lo y = gL P y ∧ (0 < y → fr y = gH P y ∧ la y = gA P y)) ∧
  (∀ x2 s2, s2 < gR P → (x2 < x ∨ (x2 = x ∧ s2 < s)) → bh (5 * x2 + s2) = gS P x2 s2) ∧
  (∀ y, 0 < y → y < gN P → (y < nn ↔ 5 * gH P y + gA P y < 5 * x + s))
theorem GIv_x {P : GD} {im0 im bh lo fr la : Nat → Nat} {nn x : Nat} (hV : GV P) (h : GIv P im0 im bh lo fr la nn x (gR P)) : GIv P im0 im bh lo fr la nn (x + 1) 0 := by
  have hR := GV_R hV
  refine ⟨h.1, h.2.1, h.2.2.1, fun x2 s2 a b => h.2.2.2.1 x2 s2 a (by omega), fun y a b => ?_⟩
  have := (hV.2.2.1 y b).2.2.1
  rw [h.2.2.2.2 y a b]
  omega
theorem GIv_end {P : GD} {im0 im bh lo fr la : Nat → Nat} {nn : Nat} (hV : GV P) (hC : GC P) (h : GIv P im0 im bh lo fr la nn nn 0) : nn = gN P := by
  have hR := GV_R hV
  refine Decidable.byContradiction fun e => ?_
  have h1 := h.1
  have h2 := (h.2.2.2.2 nn (by omega) (by omega)).mpr
  have h3 := (hC.2.1.2 nn (by omega) (by omega)).2
  have := (hV.2.2.1 nn (by omega)).2.2.1
  omega
theorem GIv_put {P : GD} {bo im0 im im2 bh lo fr la : Nat → Nat} {nn x s y : Nat} (hV : GV P) (hC : GC P) (hF : FI P bo im0) (h : GIv P im0 im bh lo fr la nn x s) (hx : x < nn) (hs : s < gR P) (hp : PUT (gR P) bo im im2 x s nn) (hy : y ≤ nn) (h1 : ∀ z, z < y → ¬ SAM (gR P) im2 z nn) (h2 : y = nn ∨ SAM (gR P) im2 y nn) :
    y < gN P ∧ (y < nn → GIv P im0 im2 (uN bh (5 * x + s) y) lo fr la nn x (s + 1)) ∧ (y = nn → GIv P im0 im2 (uN bh (5 * x + s) y) (uN lo y (lo x + 1)) (uN fr y x) (uN la y s) (nn + 1) x (s + 1)) := by
  have hR := GV_R hV
  obtain ⟨⟨g1, g2⟩, g3, g4, g5, g6⟩ := h
  have hxN : x < gN P := by omega
  have hy0 := hV.2.2.2.1 x s hxN hs
  have old : ∀ z q i, z < nn → q < gR P → i < gR P → im2 (25 * z + 5 * q + i) = im0 (25 * z + 5 * q + i) := fun z q i a b d => (hp.1 _ (by omega)).trans (g3 z q i a b d)
  have new : ∀ q i, q < gR P → i < gR P → im2 (25 * nn + 5 * q + i) = im0 (25 * gS P x s + 5 * q + i) := by
    intro q i a b
    rw [hp.2 q i a b, hF.2.2.2.2.1 x s q i hxN hs a b, stp, stp, g3 x q i hx a b, g3 x s i hx hs b]
  have same : ∀ z, z < nn → SAM (gR P) im2 z nn → z = gS P x s := by
    intro z hz hsm
    refine hF.2.2.2.2.2 z _ (by omega) hy0 (fun q i a b => ?_)
    rw [← old z q i hz a b, ← new q i a b]
    exact hsm q i a b
  have bhs : ∀ x2 s2, s2 < gR P → (x2 < x ∨ (x2 = x ∧ s2 < s + 1)) → gS P x s = y → uN bh (5 * x + s) y (5 * x2 + s2) = gS P x2 s2 := by
    intro x2 s2 a b e
    by_cases e1 : x2 = x ∧ s2 = s
    · rw [e1.1, e1.2, uN, if_pos rfl, e]
    · rw [uN, if_neg (by omega)]
      exact g5 x2 s2 a (by omega)
  by_cases c : gS P x s < nn
  · have sm : SAM (gR P) im2 (gS P x s) nn := fun q i a b => by rw [old _ q i c a b, new q i a b]
    have e : y = gS P x s := by
      have hle : y ≤ gS P x s := Decidable.byContradiction fun q => h1 (gS P x s) (by omega) sm
      rcases h2 with e | e
      · omega
      · exact same y (by omega) e
    refine ⟨by omega, fun _ => ⟨⟨g1, g2⟩, old, g4, fun x2 s2 a b => bhs x2 s2 a b e.symm, fun z a b => ?_⟩, fun q => by omega⟩
    have hz := (hV.2.2.1 z b).2.2.1
    rw [g6 z a b]
    constructor
    · intro q; omega
    · intro q
      refine Decidable.byContradiction fun q2 => ?_
      have k1 : gH P z = x := by omega
      have k2 : gA P z = s := by omega
      have k3 := hF.1 z a b
      rw [k1, k2] at k3
      have := (g6 z a b).mp (by omega)
      omega
  · have ey : y = nn := by
      rcases h2 with e | e
      · exact e
      · refine Decidable.byContradiction fun q => ?_
        have := same y (by omega) e
        omega
    have hpos : 0 < gS P x s := by omega
    have k0 : ¬ (5 * gH P (gS P x s) + gA P (gS P x s) < 5 * x + s) := fun q => c ((g6 _ hpos hy0).mpr q)
    have k1 : 5 * gH P (gS P x s) + gA P (gS P x s) = 5 * x + s := by
      rcases hF.2.1 x s hxN hs with e | e
      · omega
      · omega
    have ky : gS P x s = nn := by
      refine Decidable.byContradiction fun q => ?_
      have k2 := FI_key hF (gS P x s - nn - 1) nn (by omega) (by omega)
      rw [show nn + (gS P x s - nn - 1) + 1 = gS P x s by omega] at k2
      have := (g6 nn (by omega) (by omega)).mpr (by omega)
      omega
    have hA := (hV.2.2.1 (gS P x s) hy0).2.2.1
    have kH : gH P nn = x := by rw [← ky]; omega
    have kA : gA P nn = s := by rw [← ky]; omega
    have kL := (hC.2.1.2 nn (by omega) (by omega)).1
    refine ⟨by omega, fun q => by omega, fun _ => ⟨⟨by omega, by omega⟩, fun z q i a b d => ?_, fun z a => ?_, fun x2 s2 a b => bhs x2 s2 a b (by omega), fun z a b => ?_⟩⟩
    · by_cases e : z = nn
      · rw [e, new q i b d, ky]
      · exact old z q i (by omega) b d
    · by_cases e : z = nn
      · rw [e, ey, uN, if_pos rfl, uN, if_pos rfl, uN, if_pos rfl, (g4 x hx).1]
        rw [kH] at kL
        exact ⟨kL, fun _ => ⟨kH.symm, kA.symm⟩⟩
      · rw [uN, if_neg (by omega), uN, if_neg (by omega), uN, if_neg (by omega)]
        exact g4 z (by omega)
    · by_cases e : z = nn
      · rw [e, kH, kA]; omega
      · by_cases e2 : z < nn
        · have := (g6 z a b).mp e2
          omega
        · have k2 := FI_key hF (z - nn - 1) nn (by omega) (by omega)
          rw [show nn + (z - nn - 1) + 1 = z by omega, kH, kA] at k2
          omega

set_option maxHeartbeats 4000000 in
theorem lp_X9_lays_good {G : GG} {j nw nx gn : Nat} {g : Nat → Sh} {c : Nat → Nat → Int} {post : Option AV → AM → Prop} {P : GD} {ln : Nat} {bo im0 : Nat → Nat} {ah bk mo : Nat → Nat} {sp : Nat → Int} (hR : c 49 4 = ((gR P : Nat) : Int)) (hL : c 49 5 = ((ln : Nat) : Int)) (hBo : ∀ i, i < 25 → c 51 i = ((bo i : Nat) : Int)) (hV : GV P) (hC : GC P) (hF : FI P bo im0) (hbo : ∀ s q, s < gR P → q < gR P → q ≠ s → 2 ≤ bo (5 * s + q) ∧ bo (5 * s + q) ≤ 12) (K : ∀ (im bh lo fr la : Nat → Nat), GIv P im0 im bh lo fr la (gN P) (gN P) 0 → SW G (j + 5) mX9_lays 208 [some (vr (49)), none, none, none] [] (S nw nx g, 78 + gn, (lm c im bh ah lo fr la bk mo sp 0 (gN P) 0 false)) B0 post) : ∀ (k x : Nat) (im bh lo fr la : Nat → Nat) (nn : Nat), x + k = 61 → x ≤ nn → GIv P im0 im bh lo fr la nn x 0 → SW G (j + 5) mX9_lays 75 [some (vr (49)), some (vi (((x : Nat) : Int))), none, none] [] (S nw nx g, 78 + gn, (lm c im bh ah lo fr la bk mo sp 0 nn 0 false)) B0 post := by
  intro k
  have hr := GV_R hV
  have hN := GV_N hV
  have im0_lt : ∀ x s q i, x < gN P → s < gR P → q < gR P → i < gR P → im0 (25 * gS P x s + 5 * q + i) < 55441 := fun x s q i a b d e => by rw [hF.2.2.2.2.1 x s q i a b d e]; exact stp_lt _ _ _ _ _ _
  have im0_lt2 : ∀ y q i, y < gN P → q < gR P → i < gR P → im0 (25 * y + 5 * q + i) < 55441 := by
    intro y q i hy hq hi
    rcases Nat.eq_zero_or_pos y with e | e
    · subst e
      have e0 : 25 * 0 + 5 * q + i = 5 * q + i := by omega
      rw [e0, hF.2.2.2.1 q i hq hi]
      split <;> omega
    · have h3 := hF.1 y e hy
      have := im0_lt (gH P y) (gA P y) q i (hV.2.2.1 y hy).2.1 (hV.2.2.1 y hy).2.2.1 hq hi
      rw [h3] at this
      exact this
  induction k with
  | zero => intro x im bh lo fr la nn hx h1 hc; have := hc.1; exfalso; omega
  | succ k ih =>
    intro x im bh lo fr la nn hx h1 hc
    have hnn := hc.1
    refine g_X9_lays_75 hR hL hBo ?_
    by_cases e : x = nn
    · subst e
      have e2 := GIv_end hV hC hc
      subst e2
      refine ⟨?_, ?_, ⟨fun q => ?_, fun q => ?_⟩⟩
      all_goals first | omega | (exfalso; omega) | exact K _ _ _ _ _ hc
    · have L85 : ∀ (t s : Nat) (im bh lo fr la : Nat → Nat) (nn : Nat), s + t = gR P → x < nn → GIv P im0 im bh lo fr la nn x s → SW G (j + 5) mX9_lays 85 [some (vr (49)), some (vi (((x : Nat) : Int))), some (vi (((s : Nat) : Int))), none] [] (S nw nx g, 78 + gn, (lm c im bh ah lo fr la bk mo sp 0 nn 0 false)) B0 post := by
        intro t
        induction t with
        | zero =>
          intro s im bh lo fr la nn hs hxn hc
          have e3 : s = gR P := by omega
          subst e3
          have hc2 := GIv_x hV hc
          refine g_X9_lays_85 hR hL hBo ?_
          refine ⟨?_, ?_, ⟨fun q => ?_, fun q => ⟨?_, ?_, ?_, ?_, ?_, ?_, fun im_1 => fun q => ?_⟩⟩⟩
          all_goals first | omega | (exfalso; omega) | exact ih _ _ _ _ _ _ _ (by omega) (by omega) hc2
        | succ t iht =>
          intro s im bh lo fr la nn hs hxn hc
          have hnn := hc.1
          have hlt : ∀ z q i, z < nn → q < gR P → i < gR P → im (25 * z + 5 * q + i) < 55441 := fun z q i a b d => by rw [hc.2.1 z q i a b d]; exact im0_lt2 z q i (by omega) b d
          refine g_X9_lays_85 hR hL hBo ?_
          refine ⟨?_, ?_, ⟨fun q => ?_, fun q => ⟨?_, ?_, ?_, ?_, ?_, ?_, fun im_1 => fun q => ?_⟩⟩⟩
          all_goals first | omega | (exfalso; omega) | exact hlt | exact (fun q a b => hbo s q (by omega) a b) | skip
          have hp := q
          have hs' : s < gR P := by omega
          refine lp_X9_lays_105 hR hL hBo hr (by omega) (fun z q i a b d => ?_) (fun q i a b => by rw [hp.2 q i a b]; exact stp_lt _ _ _ _ _ _) (fun y hy hf1 hf => ?_) nn 0 (by omega) (fun z hz => absurd hz (by omega))
          · rw [hp.1 _ (by omega)]; exact hlt z q i a b d
          · obtain ⟨hg1, hg2, hg3⟩ := GIv_put hV hC hF hc hxn hs' hp hy hf1 hf
            refine g_X9_lays_131 hR hL hBo ?_
            refine ⟨?_, ⟨fun q => ⟨?_, ?_, ⟨fun q => ⟨?_, ?_⟩, fun q => ⟨?_, ⟨?_, ⟨?_, ⟨?_, ⟨?_, ?_⟩⟩⟩⟩⟩⟩⟩, fun q => ?_⟩⟩
            all_goals first | omega | (exfalso; omega) | exact iht _ _ _ _ _ _ _ (by omega) (by omega) (hg2 (by omega)) | exact iht _ _ _ _ _ _ _ (by omega) (by omega) (hg3 (by omega))
      refine ⟨?_, ?_, ⟨fun q => ?_, fun q => ?_⟩⟩
      all_goals first | omega | (exfalso; omega) | exact L85 (gR P) 0 _ _ _ _ _ _ (by omega) (by omega) hc

