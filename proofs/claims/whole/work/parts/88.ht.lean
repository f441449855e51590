def pw (P : GD) (w z : Nat) : Nat := (gL P w - gL P z) / 2
def tz (P : GD) (T : PT) (w h s a k z : Nat) : Int := if (gE P z).testBit s = true ∧ muT P T z h ≠ 0 ∧ (gE P a).testBit s = true ∧ (gD P z).testBit a = true ∧ a ≤ z then (if pw P w z ≤ k then (-(muT P T z h)) * T a z (k - pw P w z) else 0) else 0
def s2 (P : GD) (T : PT) (w h s a k : Nat) : Nat → Int
  | 0 => 0
  | z + 1 => s2 P T w h s a k z + tz P T w h s a k z
def C1 (P : GD) (T : PT) (w h s X : Nat) : CO := fun a k => if a < X ∧ (gE P a).testBit s = true ∧ (gD P w).testBit a = true then T (gS P a s) h k + (if 1 ≤ k then T a h (k - 1) else 0) else 0
def C2 (P : GD) (T : PT) (w h s Z : Nat) : CO := fun a k => C1 P T w h s (w + 1) a k + s2 P T w h s a k Z
def C3 (P : GD) (T : PT) (w h s X : Nat) : CO := fun a k => C2 P T w h s h a k + (if (gE P a).testBit s = false ∧ gS P a s < X ∧ (gE P (gS P a s)).testBit s = true ∧ (gD P w).testBit (gS P a s) = true then C2 P T w h s h (gS P a s) k else 0)
theorem CW_cg {P : GD} {T : PT} {w : Nat} {c1 c2 : CO} {f : Nat → Int} (h : CW P T w c1 f) (hc : ∀ a k, a < gN P → k < 8 → c1 a k = c2 a k) : CW P T w c2 f := ⟨h.1, fun v k hv hk => by rw [h.2 v k hv hk, hc v k hv hk]⟩
theorem CW_1 {P : GD} {T : PT} (hV : GV P) {w h s : Nat} (hw : w < gN P) (hh : h < w) (hs : s < gR P) {f : Nat → Int} (h0 : CW P T w (fun _ _ => 0) f) : ∀ X, X ≤ gN P → CW P T w (C1 P T w h s X) (f1S P w h s f X) := by
  have h60 := GV_N hV
  intro X
  induction X with
  | zero => intro _; exact CW_cg h0 (fun a k _ _ => by rw [C1, if_neg (show ¬ (a < 0 ∧ (gE P a).testBit s = true ∧ (gD P w).testBit a = true) from fun q => by omega)])
  | succ X ih =>
    intro hX
    have i1 := ih (by omega)
    have hS := hV.2.2.2.1 X s (by omega) hs
    rw [f1S]
    by_cases hc : (gE P X).testBit s = true ∧ (gD P w).testBit X = true
    · rw [if_pos hc]
      refine CW_cg (CW_ad (CW_ad i1 h60 (by omega) (by omega) hS hh) h60 (by omega) (by omega) (by omega) hh) (fun a k ha hk => ?_)
      simp only [adC, C1]
      by_cases e : a = X
      · subst e
        have p1 : ¬ (a < a ∧ (gE P a).testBit s = true ∧ (gD P w).testBit a = true) := fun q => by omega
        have p2 : a < a + 1 ∧ (gE P a).testBit s = true ∧ (gD P w).testBit a = true := ⟨by omega, hc⟩
        rw [if_pos rfl, if_pos rfl, if_neg p1, if_pos p2, if_pos (Nat.zero_le k), Nat.sub_zero]
        by_cases h1 : 1 ≤ k
        · rw [if_pos h1, if_pos h1]; omega
        · rw [if_neg h1, if_neg h1]; omega
      · rw [if_neg e, if_neg e]
        by_cases h2 : a < X ∧ (gE P a).testBit s = true ∧ (gD P w).testBit a = true
        · rw [if_pos h2, if_pos (show a < X + 1 ∧ (gE P a).testBit s = true ∧ (gD P w).testBit a = true from ⟨by omega, h2.2⟩)]
        · rw [if_neg h2, if_neg (show ¬ (a < X + 1 ∧ (gE P a).testBit s = true ∧ (gD P w).testBit a = true) from fun q => h2 ⟨by omega, q.2⟩)]
    · rw [if_neg hc]
      refine CW_cg i1 (fun a k ha hk => ?_)
      simp only [C1]
      by_cases h2 : a < X ∧ (gE P a).testBit s = true ∧ (gD P w).testBit a = true
      · rw [if_pos h2, if_pos (show a < X + 1 ∧ (gE P a).testBit s = true ∧ (gD P w).testBit a = true from ⟨by omega, h2.2⟩)]
      · rw [if_neg h2]
        by_cases e : a = X
        · subst e; rw [if_neg (show ¬ (a < a + 1 ∧ (gE P a).testBit s = true ∧ (gD P w).testBit a = true) from fun q => hc q.2)]
        · rw [if_neg (show ¬ (a < X + 1 ∧ (gE P a).testBit s = true ∧ (gD P w).testBit a = true) from fun q => h2 ⟨by omega, q.2⟩)]
theorem tkC_at {P : GD} {T : PT} {s z t : Nat} {o : Int} {col : CO} : ∀ X a k, tkC P T s z t o col X a k = if a < X ∧ (gE P a).testBit s = true ∧ (gD P z).testBit a = true then col a k + (if t ≤ k then o * T a z (k - t) else 0) else col a k := by
  intro X
  induction X with
  | zero => intro a k; rw [tkC, if_neg (show ¬ (a < 0 ∧ (gE P a).testBit s = true ∧ (gD P z).testBit a = true) from fun q => by omega)]
  | succ X ih =>
    intro a k
    rw [tkC]
    by_cases hc : (gE P X).testBit s = true ∧ (gD P z).testBit X = true
    · rw [if_pos hc]
      simp only [adC]
      by_cases e : a = X
      · subst e
        rw [if_pos rfl, ih, if_neg (show ¬ (a < a ∧ (gE P a).testBit s = true ∧ (gD P z).testBit a = true) from fun q => by omega), if_pos (show a < a + 1 ∧ (gE P a).testBit s = true ∧ (gD P z).testBit a = true from ⟨by omega, hc⟩)]
      · rw [if_neg e, ih]
        by_cases h2 : a < X ∧ (gE P a).testBit s = true ∧ (gD P z).testBit a = true
        · rw [if_pos h2, if_pos (show a < X + 1 ∧ (gE P a).testBit s = true ∧ (gD P z).testBit a = true from ⟨by omega, h2.2⟩)]
        · rw [if_neg h2, if_neg (show ¬ (a < X + 1 ∧ (gE P a).testBit s = true ∧ (gD P z).testBit a = true) from fun q => h2 ⟨by omega, q.2⟩)]
    · rw [if_neg hc, ih]
      by_cases h2 : a < X ∧ (gE P a).testBit s = true ∧ (gD P z).testBit a = true
      · rw [if_pos h2, if_pos (show a < X + 1 ∧ (gE P a).testBit s = true ∧ (gD P z).testBit a = true from ⟨by omega, h2.2⟩)]
      · rw [if_neg h2]
        by_cases e : a = X
        · subst e; rw [if_neg (show ¬ (a < a + 1 ∧ (gE P a).testBit s = true ∧ (gD P z).testBit a = true) from fun q => hc q.2)]
        · rw [if_neg (show ¬ (a < X + 1 ∧ (gE P a).testBit s = true ∧ (gD P z).testBit a = true) from fun q => h2 ⟨by omega, q.2⟩)]
theorem mu_CW {P : GD} {T : PT} (hV : GV P) {w h z : Nat} {col : CO} {f : Nat → Int} (hc : CW P T w col f) (hh : h < w) (hw : w < gN P) (hz : z < gN P) : muG P f z h = muT P T z h := by
  have h1 := (hV.2.2.1 h (by omega)).1
  rw [muG, muT]
  split
  · exact hc.1 z h _ hz hh (by omega)
  · rfl
theorem CW_2 {P : GD} {T : PT} (hV : GV P) {w h : Nat} (hw : w < gN P) (hh : h < w) {f : Nat → Int} (h0 : CW P T w (C1 P T w h (gA P w) (w + 1)) f) : ∀ Z, Z ≤ h → CW P T w (C2 P T w h (gA P w) Z) (f2S P w h (gA P w) f Z) := by
  have h60 := GV_N hV
  intro Z
  induction Z with
  | zero => intro _; exact CW_cg h0 (fun a k _ _ => by rw [C2, s2, Int.add_zero])
  | succ Z ih =>
    intro hZ
    have i1 := ih (by omega)
    rw [f2S, mu_CW hV i1 hh hw (by omega)]
    by_cases hc : (gE P Z).testBit (gA P w) = true ∧ muT P T Z h ≠ 0
    · rw [if_pos hc]
      refine CW_cg (CW_tk i1 h60 hw (by omega) (Z + 1) (Nat.le_refl _)) (fun a k ha hk => ?_)
      rw [tkC_at]
      simp only [C2]
      rw [s2, tz]
      by_cases h2 : (gE P a).testBit (gA P w) = true ∧ (gD P Z).testBit a = true ∧ a ≤ Z
      · rw [if_pos (show a < Z + 1 ∧ (gE P a).testBit (gA P w) = true ∧ (gD P Z).testBit a = true from ⟨by omega, h2.1, h2.2.1⟩), if_pos (show (gE P Z).testBit (gA P w) = true ∧ muT P T Z h ≠ 0 ∧ (gE P a).testBit (gA P w) = true ∧ (gD P Z).testBit a = true ∧ a ≤ Z from ⟨hc.1, hc.2, h2⟩), pw]; omega
      · rw [if_neg (show ¬ (a < Z + 1 ∧ (gE P a).testBit (gA P w) = true ∧ (gD P Z).testBit a = true) from fun q => h2 ⟨q.2.1, q.2.2, by omega⟩), if_neg (show ¬ ((gE P Z).testBit (gA P w) = true ∧ muT P T Z h ≠ 0 ∧ (gE P a).testBit (gA P w) = true ∧ (gD P Z).testBit a = true ∧ a ≤ Z) from fun q => h2 q.2.2)]; omega
    · rw [if_neg hc]
      refine CW_cg i1 (fun a k ha hk => ?_)
      simp only [C2]
      rw [s2, tz, if_neg (show ¬ ((gE P Z).testBit (gA P w) = true ∧ muT P T Z h ≠ 0 ∧ (gE P a).testBit (gA P w) = true ∧ (gD P Z).testBit a = true ∧ a ≤ Z) from fun q => hc ⟨q.1, q.2.1⟩), Int.add_zero]
theorem CW_3 {P : GD} {T : PT} (hV : GV P) (hC : GC P) (hs : hSi P) {w h : Nat} (hw : w < gN P) (hh : h < w) {f : Nat → Int} (h0 : CW P T w (C2 P T w h (gA P w) h) f) : ∀ X, X ≤ gN P → CW P T w (C3 P T w h (gA P w) X) (f3S P w (gA P w) f X) := by
  have h60 := GV_N hV
  have hA := (hV.2.2.1 w hw).2.2.1
  intro X
  induction X with
  | zero => intro _; exact CW_cg h0 (fun a k _ _ => by rw [C3, if_neg (show ¬ ((gE P a).testBit (gA P w) = false ∧ gS P a (gA P w) < 0 ∧ (gE P (gS P a (gA P w))).testBit (gA P w) = true ∧ (gD P w).testBit (gS P a (gA P w)) = true) from fun q => by omega), Int.add_zero])
  | succ X ih =>
    intro hX
    have i1 := ih (by omega)
    have hS := hV.2.2.2.1 X _ (show X < gN P by omega) hA
    have ad := asc_desc hC hV hs (show X < gN P by omega) hA
    have si := hs X _ (show X < gN P by omega) hA
    rw [f3S]
    by_cases hc : (gE P X).testBit (gA P w) = true ∧ (gD P w).testBit X = true
    · rw [if_pos hc]
      rw [hc.1] at ad
      replace ad : (gE P (gS P X (gA P w))).testBit (gA P w) = false := ad
      refine CW_cg (CW_adD i1 h60 (by omega) hS (by omega)) (fun a k ha hk => ?_)
      simp only [adD, C3]
      by_cases e : a = gS P X (gA P w)
      · subst e
        have p1 : ¬ ((gE P (gS P X (gA P w))).testBit (gA P w) = false ∧ X < X ∧ (gE P X).testBit (gA P w) = true ∧ (gD P w).testBit X = true) := fun q => by omega
        have p2 : ¬ ((gE P X).testBit (gA P w) = false ∧ gS P X (gA P w) < X ∧ (gE P (gS P X (gA P w))).testBit (gA P w) = true ∧ (gD P w).testBit (gS P X (gA P w)) = true) := fun q => by rw [hc.1] at q; exact absurd q.1 (by decide)
        have p3 : (gE P (gS P X (gA P w))).testBit (gA P w) = false ∧ X < X + 1 ∧ (gE P X).testBit (gA P w) = true ∧ (gD P w).testBit X = true := ⟨ad, by omega, hc.1, hc.2⟩
        rw [if_pos rfl, si, if_neg p1, if_neg p2, if_pos p3]; omega
      · rw [if_neg e]
        by_cases h2 : (gE P a).testBit (gA P w) = false ∧ gS P a (gA P w) < X ∧ (gE P (gS P a (gA P w))).testBit (gA P w) = true ∧ (gD P w).testBit (gS P a (gA P w)) = true
        · rw [if_pos h2, if_pos (show (gE P a).testBit (gA P w) = false ∧ gS P a (gA P w) < X + 1 ∧ (gE P (gS P a (gA P w))).testBit (gA P w) = true ∧ (gD P w).testBit (gS P a (gA P w)) = true from ⟨h2.1, by omega, h2.2.2⟩)]
        · rw [if_neg h2, if_neg (show ¬ ((gE P a).testBit (gA P w) = false ∧ gS P a (gA P w) < X + 1 ∧ (gE P (gS P a (gA P w))).testBit (gA P w) = true ∧ (gD P w).testBit (gS P a (gA P w)) = true) from fun q => h2 ⟨q.1, ?_, q.2.2⟩)]
          apply Classical.byContradiction
          intro hn
          have : gS P a (gA P w) = X := by omega
          exact e (by rw [← this, hs a _ ha hA])
    · rw [if_neg hc]
      refine CW_cg i1 (fun a k ha hk => ?_)
      simp only [C3]
      by_cases h2 : (gE P a).testBit (gA P w) = false ∧ gS P a (gA P w) < X ∧ (gE P (gS P a (gA P w))).testBit (gA P w) = true ∧ (gD P w).testBit (gS P a (gA P w)) = true
      · rw [if_pos h2, if_pos (show (gE P a).testBit (gA P w) = false ∧ gS P a (gA P w) < X + 1 ∧ (gE P (gS P a (gA P w))).testBit (gA P w) = true ∧ (gD P w).testBit (gS P a (gA P w)) = true from ⟨h2.1, by omega, h2.2.2⟩)]
      · rw [if_neg h2, if_neg (show ¬ ((gE P a).testBit (gA P w) = false ∧ gS P a (gA P w) < X + 1 ∧ (gE P (gS P a (gA P w))).testBit (gA P w) = true ∧ (gD P w).testBit (gS P a (gA P w)) = true) from fun q => h2 ⟨q.1, ?_, q.2.2⟩)]
        apply Classical.byContradiction
        intro hn
        have e : gS P a (gA P w) = X := by omega
        exact hc ⟨by rw [← e]; exact q.2.2.1, by rw [← e]; exact q.2.2.2⟩
/-- T is the table, if its columns are as the class makes them -/
theorem HT_of {P : GD} {T : PT} (hV : GV P) (hC : GC P) (hs : hSi P) (h1 : ∀ v k, v < gN P → k < 8 → T v 0 k = if v = 0 ∧ k = 0 then 1 else 0) (h3 : ∀ v w k, v < gN P → w < gN P → k < 8 → 0 ≤ T v w k ∧ T v w k < 1000) (h2 : ∀ w, 0 < w → w < gN P → ∀ a k, a < gN P → k < 8 → C3 P T w (gH P w) (gA P w) (w + 1) a k = T a w k) : HT P T := by
  refine ⟨h1, fun w f h0 hw hf hz => ?_, h3⟩
  have hH := hC.2.1.2 w h0 hw
  have hA := (hV.2.2.1 w hw).2.2.1
  have c0 : CW P T w (fun _ _ => 0) f := ⟨fun v w2 k hv hw2 hk => hf v w2 k hv hw2 hk, fun v k hv hk => hz v k hv hk⟩
  have c1 := CW_1 hV hw hH.2 hA c0 (w + 1) (by omega)
  have c2 := CW_2 hV hw hH.2 c1
  have c3 := CW_3 hV hC hs hw hH.2 (c2 (gH P w) (Nat.le_refl _)) (w + 1) (by omega)
  refine ⟨⟨hH.2, by omega, fun x hx _ _ e => ?_, fun z hz2 => ?_⟩, fun v w2 k hv hw2 hk => ?_⟩
  · have := hC.2.2.2.2.1 x _ (show x < gN P by omega) hA
    rw [e] at this
    omega
  · rw [mu_CW hV (c2 z (by omega)) hH.2 hw (by omega), muT]
    split
    · have l1 := (hV.2.2.1 (gH P w) (by omega)).1
      have := h3 z (gH P w) ((gL P (gH P w) - gL P z - 1) / 2) (by omega) (by omega) (by omega)
      omega
    · omega
  · by_cases e : w2 = w
    · rw [e, flS, c3.2 v k hv hk, h2 w h0 hw v k hv hk]
    · rw [flS]; exact c3.1 v w2 k hv (by omega) hk
