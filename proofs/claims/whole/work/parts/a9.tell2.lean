/-- the group's text: fault, place, rank, rows, bonds -/
def glP (nb : Nat → Nat) (n : Nat) : Nat → Nat → Nat → Nat → (Nat → Nat) → Nat × Int × Nat × Nat × (Nat → Nat)
  | 0, _, ll, rr, bd => (0, -1, rr, ll, bd)
  | k + 1, p, ll, rr, bd =>
    if tkK nb n p = 0 then (0, -1, rr, ll, bd)
    else if ll = 0 then
      (if (rkP nb n p).1 ≠ 0 then ((rkP nb n p).1, (rkP nb n p).2.1, 0, 0, bd)
       else if tkK nb n (rkP nb n p).2.2.1 = 3 then glP nb n k (tkT nb n (rkP nb n p).2.2.1) (ll + 1) (rkP nb n p).2.2.2 bd
       else (1, ((tkF nb n (rkP nb n p).2.2.1 : Nat) : Int), 0, 0, bd))
    else
      (if (bnP nb n p rr bd).1 ≠ 0 then ((bnP nb n p rr bd).1, (bnP nb n p rr bd).2.1, 0, 0, bd)
       else if tkK nb n (bnP nb n p rr bd).2.2.1 = 3 then glP nb n k (tkT nb n (bnP nb n p rr bd).2.2.1) (ll + 1) rr (bnP nb n p rr bd).2.2.2
       else (1, ((tkF nb n (bnP nb n p rr bd).2.2.1 : Nat) : Int), 0, 0, bd))
theorem zf1 : (1 : Nat) < 5 := by decide
theorem zf2 : (2 : Nat) < 5 := by decide
theorem zf0 : (0 : Nat) < 5 := by decide
theorem yf1 : (1 : Nat) ≠ 0 := by decide
theorem yf2 : (2 : Nat) ≠ 0 := by decide
theorem rkP_ok {nb : Nat → Nat} {n p : Nat} (hp : p ≤ n) : (rkP nb n p).1 < 5 ∧ ((rkP nb n p).1 = 0 → p ≤ (rkP nb n p).2.2.1 ∧ (rkP nb n p).2.2.1 ≤ n ∧ 1 ≤ (rkP nb n p).2.2.2 ∧ (rkP nb n p).2.2.2 ≤ 5) := by
  have h1 := tkT_le (nb := nb) hp
  have h2 := tkT_le (nb := nb) h1.2
  have h3 := tkF_le (nb := nb) hp
  have h4 := tkF_le (nb := nb) h1.2
  unfold rkP
  split
  · first | exact ⟨zf1, fun h => absurd h yf1⟩ | exact ⟨zf2, fun h => absurd h yf2⟩
  · split
    · first | exact ⟨zf1, fun h => absurd h yf1⟩ | exact ⟨zf2, fun h => absurd h yf2⟩
    · split
      · first | exact ⟨zf1, fun h => absurd h yf1⟩ | exact ⟨zf2, fun h => absurd h yf2⟩
      · refine ⟨zf0, fun _ => ?_⟩
        show p ≤ tkT nb n (tkT nb n p) ∧ tkT nb n (tkT nb n p) ≤ n ∧ 1 ≤ vlT nb n (tkT nb n p) ∧ vlT nb n (tkT nb n p) ≤ 5
        omega
def BDok (rr : Nat) (bd : Nat → Nat) : Prop := (∀ i, i < 25 → bd i = 0 ∨ (3 ≤ bd i ∧ bd i ≤ 12)) ∧ (∀ a b, a < 5 → b < 5 → bd (a * 5 + b) = bd (b * 5 + a)) ∧ (∀ a b, a < 5 → b < 5 → (rr ≤ a ∨ a = b) → bd (a * 5 + b) = 0)
theorem ltP_le (nb : Nat → Nat) (n p rr : Nat) : ltP nb n p rr ≤ 2 := by
  unfold ltP
  (repeat' split) <;> omega
theorem ltQ_le (nb : Nat → Nat) (n p rr a : Nat) (bd : Nat → Nat) : ltQ nb n p rr a bd ≤ 2 := by
  unfold ltQ
  (repeat' split) <;> omega
theorem BDok_set {rr a b v : Nat} {bd : Nat → Nat} (h : BDok rr bd) (hr : rr ≤ 5) (ha : a < rr) (hb : b < rr) (hne : b ≠ a) (hv : 3 ≤ v ∧ v ≤ 12) : BDok rr (uN (uN bd (a * 5 + b) v) (b * 5 + a) v) := by
  obtain ⟨h1, h2, h3⟩ := h
  refine ⟨fun i hi => ?_, fun x y hx hy => ?_, fun x y hx hy hz => ?_⟩
  · simp only [uN]
    split
    · exact Or.inr hv
    · split
      · exact Or.inr hv
      · exact h1 i hi
  · have e := h2 x y hx hy
    simp only [uN]
    (repeat' split) <;> first | rfl | exact e | omega
  · have e := h3 x y hx hy hz
    simp only [uN]
    (repeat' split) <;> first | exact e | omega
theorem bnP_ok {nb : Nat → Nat} {n p rr : Nat} {bd : Nat → Nat} (hp : p ≤ n) (hr : rr ≤ 5) (hb : BDok rr bd) : (bnP nb n p rr bd).1 < 5 ∧ ((bnP nb n p rr bd).1 = 0 → p ≤ (bnP nb n p rr bd).2.2.1 ∧ (bnP nb n p rr bd).2.2.1 ≤ n ∧ BDok rr (bnP nb n p rr bd).2.2.2) := by
  have h1 := tkT_le (nb := nb) hp
  have h2 := tkT_le (nb := nb) h1.2
  have h3 := tkT_le (nb := nb) h2.2
  have h4 := tkT_le (nb := nb) h3.2
  have f1 := tkF_le (nb := nb) hp
  have f2 := tkF_le (nb := nb) h1.2
  have f3 := tkF_le (nb := nb) h2.2
  have f4 := tkF_le (nb := nb) h3.2
  have l1 := ltP_le nb n (tkT nb n p) rr
  have l2 := ltQ_le nb n (tkT nb n (tkT nb n p)) rr (ltV nb n (tkT nb n p)) bd
  unfold bnP
  split
  · first | exact ⟨zf1, fun h => absurd h yf1⟩ | exact ⟨zf2, fun h => absurd h yf2⟩
  · split
    · rename_i h
      exact ⟨by show ltP nb n (tkT nb n p) rr < 5; omega, fun q => absurd q h⟩
    · rename_i hA
      split
      · rename_i h
        exact ⟨by show ltQ nb n (tkT nb n (tkT nb n p)) rr (ltV nb n (tkT nb n p)) bd < 5; omega, fun q => absurd q h⟩
      · rename_i hB
        split
        · first | exact ⟨zf1, fun h => absurd h yf1⟩ | exact ⟨zf2, fun h => absurd h yf2⟩
        · split
          · first | exact ⟨zf1, fun h => absurd h yf1⟩ | exact ⟨zf2, fun h => absurd h yf2⟩
          · rename_i hv
            refine ⟨zf0, fun _ => ?_⟩
            have hv2 := Decidable.not_not.mp hv
            have hA2 : ltV nb n (tkT nb n p) < rr := by
              have := Decidable.not_not.mp hA
              unfold ltP at this
              split at this
              · omega
              · split at this <;> omega
            have hB2 : ltV nb n (tkT nb n (tkT nb n p)) < rr ∧ ltV nb n (tkT nb n (tkT nb n p)) ≠ ltV nb n (tkT nb n p) := by
              have := Decidable.not_not.mp hB
              unfold ltQ at this
              split at this
              · omega
              · split at this <;> omega
            exact ⟨by show p ≤ tkT nb n (tkT nb n (tkT nb n (tkT nb n p))); omega, h4.2, BDok_set hb hr hA2 hB2.1 hB2.2 hv2⟩
theorem glP_ok {nb : Nat → Nat} {n : Nat} : ∀ k p ll rr bd, p ≤ n → rr ≤ 5 → (0 < ll ↔ 0 < rr) → BDok rr bd → ((glP nb n k p ll rr bd).1 < 5 ∧ ((glP nb n k p ll rr bd).1 = 0 → (glP nb n k p ll rr bd).2.1 = -1 ∧ (glP nb n k p ll rr bd).2.2.1 ≤ 5 ∧ (0 < (glP nb n k p ll rr bd).2.2.2.1 ↔ 0 < (glP nb n k p ll rr bd).2.2.1) ∧ BDok (glP nb n k p ll rr bd).2.2.1 (glP nb n k p ll rr bd).2.2.2.2 ∧ (glP nb n k p ll rr bd).2.2.2.1 ≤ ll + k)) := by
  intro k
  induction k with
  | zero => intro p ll rr bd hp hr h0 hb; exact ⟨zf0, fun _ => ⟨rfl, hr, h0, hb, Nat.le_refl _⟩⟩
  | succ k ih =>
    intro p ll rr bd hp hr h0 hb
    unfold glP
    split
    · exact ⟨zf0, fun _ => ⟨rfl, hr, h0, hb, by show ll ≤ ll + (k + 1); omega⟩⟩
    · split
      · rename_i hl
        have r := rkP_ok (nb := nb) hp
        split
        · rename_i h; exact ⟨r.1, fun q => absurd q h⟩
        · rename_i h
          have r2 := r.2 (Decidable.not_not.mp h)
          split
          · have hb2 : BDok (rkP nb n p).2.2.2 bd := by
              refine ⟨hb.1, hb.2.1, fun a b ha hb3 hz => ?_⟩
              have : rr = 0 := by omega
              subst this
              exact hb.2.2 a b ha hb3 (by omega)
            have := ih (tkT nb n (rkP nb n p).2.2.1) (ll + 1) (rkP nb n p).2.2.2 bd (tkT_le r2.2.1).2 (by omega) (by omega) hb2
            exact ⟨this.1, fun q => ⟨(this.2 q).1, (this.2 q).2.1, (this.2 q).2.2.1, (this.2 q).2.2.2.1, by have := (this.2 q).2.2.2.2; omega⟩⟩
          · exact ⟨zf1, fun q => absurd q yf1⟩
      · rename_i hl
        have r := bnP_ok (nb := nb) hp hr hb
        split
        · rename_i h; exact ⟨r.1, fun q => absurd q h⟩
        · rename_i h
          have r2 := r.2 (Decidable.not_not.mp h)
          split
          · have := ih (tkT nb n (bnP nb n p rr bd).2.2.1) (ll + 1) rr (bnP nb n p rr bd).2.2.2 (tkT_le r2.2.1).2 hr (by omega) r2.2.2
            exact ⟨this.1, fun q => ⟨(this.2 q).1, (this.2 q).2.1, (this.2 q).2.2.1, (this.2 q).2.2.2.1, by have := (this.2 q).2.2.2.2; omega⟩⟩
          · exact ⟨zf1, fun q => absurd q yf1⟩

set_option maxHeartbeats 2000000 in
set_option maxRecDepth 20000 in
theorem g_X7_readRank_0 {G : GG} {j nw nx gn : Nat} {g : Nat → Sh} {c : Nat → Nat → Int} {post : Option AV → AM → Prop} {nb : Nat → Nat} {n : Nat} {p : Nat} {rr : Nat} {ll : Nat} {pl : Int} {bd : Nat → Nat} (hS : c 1 1 = ((n : Nat) : Int)) (hn : n ≤ 300) (hB : ∀ i, nb i < 256) (hT : ∀ i, i < 300 → c 2 i = sb (nb i))  (hv : ((tkF nb n p) ≤ (tkT nb n p)) ∧ ((tkT nb n p) ≤ n) ∧ ((tkK nb n p) < 5) ∧ ((p ≤ n) ∧ (((wdG nb (tkK nb n p) (tkF nb n p) (tkT nb n p)) = true) → ((tkT nb n p) ≤ n) ∧ (1 < 100) ∧ (5 < 100) ∧ ((tkK nb n (tkT nb n p) = 2 ∧ 1 ≤ vlT nb n (tkT nb n p) ∧ vlT nb n (tkT nb n p) ≤ 5) → post none (S nw nx g, 78 + gn, (pm c (tkK nb n (tkT nb n (tkT nb n p))) (tkF nb n (tkT nb n (tkT nb n p))) (tkT nb n (tkT nb n (tkT nb n p))) (vlT nb n (tkT nb n p)) ll 0 pl bd))) ∧ ((tkK nb n (tkT nb n p) ≠ 2) → post none (S nw nx g, 78 + gn, (pm c (tkK nb n (tkT nb n p)) (tkF nb n (tkT nb n p)) (tkT nb n (tkT nb n p)) 0 ll 1 ((tkF nb n (tkT nb n p) : Nat) : Int) bd))) ∧ ((tkK nb n (tkT nb n p) = 2 ∧ ¬ (1 ≤ vlT nb n (tkT nb n p) ∧ vlT nb n (tkT nb n p) ≤ 5)) → post none (S nw nx g, 78 + gn, (pm c (tkK nb n (tkT nb n p)) (tkF nb n (tkT nb n p)) (tkT nb n (tkT nb n p)) 0 ll 2 ((tkF nb n (tkT nb n p) : Nat) : Int) bd)))) ∧ (((wdG nb (tkK nb n p) (tkF nb n p) (tkT nb n p)) = false) → (1 ≠ 0) ∧ (1 < 5) ∧ (post none (S nw nx g, 78 + gn, (pm c (tkK nb n p) (tkF nb n p) (tkT nb n p) 0 ll 1 ((tkF nb n p : Nat) : Int) bd)))))) :
    SW G (j + 5) mX7_readRank 0 [some (vr (3)), some (vr (1))] [] (S nw nx g, 78 + gn, (pm c (tkK nb n p) (tkF nb n p) (tkT nb n p) rr ll 0 pl bd)) B0 post := by
  refine sw_aload_n (dX7_readRank.at 0 rfl) rfl rfl ?_
  refine sw_aload_n (dX7_readRank.at 1 rfl) rfl rfl ?_
  refine sw_aload_n (dX7_readRank.at 2 rfl) rfl rfl ?_
  refine sw_ldcS (k := 2) (tx := "group") (dX7_readRank.at 3 rfl) (fun _ _ h => h.1) ?_
  refine sw_callV (B' := B0) (As := [vf 2]) (mc := 0) (ms := 0) (dX7_readRank.at 4 rfl) lk_X7_70 (S_lt 1 (by decide)) (S_1 nw nx g) rfl rfl (Nat.le_of_ble_eq_true rfl) rfl (Nat.le_refl _) (Nat.le_refl _) ?_
  refine c_X6_isWord_2 (j := j + 0) hS hn hB hT hv.1 hv.2.1 hv.2.2.1 ?_
  replace hv := hv.2.2.2
  refine sw_callV (B' := B0) (As := [vr (1), vi (bz (wdG nb (tkK nb n p) (tkF nb n p) (tkT nb n p)))]) (mc := 0) (ms := 0) (dX7_readRank.at 5 rfl) lk_X7_43 (S_lt 3 (by decide)) (S_3 nw nx g) rfl rfl (Nat.le_of_ble_eq_true rfl) rfl (Nat.le_refl _) (Nat.le_refl _) ?_
  refine c_X7_pass_0 (j := j + 2) hS hn hB hT hv.1 (fun q => ?_) (fun q => ?_) 
  · replace hv := hv.2.1 q
    refine sw_aload_n (dX7_readRank.at 6 rfl) rfl rfl ?_
    refine sw_aload_n (dX7_readRank.at 7 rfl) rfl rfl ?_
    refine sw_aload_n (dX7_readRank.at 8 rfl) rfl rfl ?_
    refine sw_iconst (dX7_readRank.at 9 rfl) ?_
    refine sw_iconst (dX7_readRank.at 10 rfl) ?_
    refine sw_callV (B' := B0) (As := [vr (1), vi (1), vi (5)]) (mc := 0) (ms := 0) (dX7_readRank.at 11 rfl) lk_X7_74 (S_lt 3 (by decide)) (S_3 nw nx g) rfl rfl (Nat.le_of_ble_eq_true rfl) rfl (Nat.le_refl _) (Nat.le_refl _) ?_
    refine c_X7_readNumber (lo := 1) (hi := 5) (j := j + 2) hS hn hB hT hv.1 hv.2.1 hv.2.2.1 (fun q => ?_) (fun q => ?_) (fun q => ?_) 
    · replace hv := hv.2.2.2.1 q
      refine sw_putI (dX7_readRank.at 12 rfl) fp_X7_67 (S_lt 3 (by decide)) (S_3 nw nx g) rfl ?_
      refine SW.cg (M' := (S nw nx g, 78 + gn, (pm c (tkK nb n (tkT nb n (tkT nb n p))) (tkF nb n (tkT nb n (tkT nb n p))) (tkT nb n (tkT nb n (tkT nb n p))) (vlT nb n (tkT nb n p)) ll 0 pl bd))) (congrArg (fun m => (S nw nx g, 78 + gn, m)) pm_31) ?_
      exact sw_vret (dX7_readRank.at 13 rfl) rfl (Nat.le_refl _) (Nat.le_refl _) hv
    · replace hv := hv.2.2.2.2.1 q
      refine sw_putI (dX7_readRank.at 12 rfl) fp_X7_67 (S_lt 3 (by decide)) (S_3 nw nx g) rfl ?_
      refine SW.cg (M' := (S nw nx g, 78 + gn, (pm c (tkK nb n (tkT nb n p)) (tkF nb n (tkT nb n p)) (tkT nb n (tkT nb n p)) 0 ll 1 ((tkF nb n (tkT nb n p) : Nat) : Int) bd))) (congrArg (fun m => (S nw nx g, 78 + gn, m)) pm_31) ?_
      exact sw_vret (dX7_readRank.at 13 rfl) rfl (Nat.le_refl _) (Nat.le_refl _) hv
    · replace hv := hv.2.2.2.2.2 q
      refine sw_putI (dX7_readRank.at 12 rfl) fp_X7_67 (S_lt 3 (by decide)) (S_3 nw nx g) rfl ?_
      refine SW.cg (M' := (S nw nx g, 78 + gn, (pm c (tkK nb n (tkT nb n p)) (tkF nb n (tkT nb n p)) (tkT nb n (tkT nb n p)) 0 ll 2 ((tkF nb n (tkT nb n p) : Nat) : Int) bd))) (congrArg (fun m => (S nw nx g, 78 + gn, m)) pm_31) ?_
      exact sw_vret (dX7_readRank.at 13 rfl) rfl (Nat.le_refl _) (Nat.le_refl _) hv
  · replace hv := hv.2.2 q
    refine sw_aload_n (dX7_readRank.at 6 rfl) rfl rfl ?_
    refine sw_aload_n (dX7_readRank.at 7 rfl) rfl rfl ?_
    refine sw_aload_n (dX7_readRank.at 8 rfl) rfl rfl ?_
    refine sw_iconst (dX7_readRank.at 9 rfl) ?_
    refine sw_iconst (dX7_readRank.at 10 rfl) ?_
    refine sw_callV (B' := B0) (As := [vr (1), vi (1), vi (5)]) (mc := 0) (ms := 0) (dX7_readRank.at 11 rfl) lk_X7_74 (S_lt 3 (by decide)) (S_3 nw nx g) rfl rfl (Nat.le_of_ble_eq_true rfl) rfl (Nat.le_refl _) (Nat.le_refl _) ?_
    refine c_X7_readNumber_bad (j := j + 2) hS hn hB hT hv.1 hv.2.1 ?_
    replace hv := hv.2.2
    refine sw_putI (dX7_readRank.at 12 rfl) fp_X7_67 (S_lt 3 (by decide)) (S_3 nw nx g) rfl ?_
    refine SW.cg (M' := (S nw nx g, 78 + gn, (pm c (tkK nb n p) (tkF nb n p) (tkT nb n p) 0 ll 1 ((tkF nb n p : Nat) : Int) bd))) (congrArg (fun m => (S nw nx g, 78 + gn, m)) pm_31) ?_
    exact sw_vret (dX7_readRank.at 13 rfl) rfl (Nat.le_refl _) (Nat.le_refl _) hv

set_option maxHeartbeats 4000000 in
theorem c_X7_readRank {G : GG} {j nw nx gn : Nat} {g : Nat → Sh} {c : Nat → Nat → Int} {post : Option AV → AM → Prop} {nb : Nat → Nat} {n : Nat} {p : Nat} {rr : Nat} {ll : Nat} {pl : Int} {bd : Nat → Nat} (hS : c 1 1 = ((n : Nat) : Int)) (hn : n ≤ 300) (hB : ∀ i, nb i < 256) (hT : ∀ i, i < 300 → c 2 i = sb (nb i)) (hp : p ≤ n) (K1 : (rkP nb n p).1 = 0 → post none (S nw nx g, 78 + gn, (pm c (tkK nb n ((rkP nb n p).2.2.1)) (tkF nb n ((rkP nb n p).2.2.1)) (tkT nb n ((rkP nb n p).2.2.1)) ((rkP nb n p).2.2.2) ll 0 pl bd))) (K2 : (rkP nb n p).1 ≠ 0 → ∀ tk tf tt rr2 : Nat, tk < 5 → post none (S nw nx g, 78 + gn, (pm c tk tf tt rr2 ll (rkP nb n p).1 (rkP nb n p).2.1 bd))) : SM G (j + 6) mX7_readRank [vr (3), vr (1)] (S nw nx g, 78 + gn, (pm c (tkK nb n p) (tkF nb n p) (tkT nb n p) rr ll 0 pl bd)) 0 0 post := by
  refine sm_of wX7_readRank rfl (Nat.le_of_ble_eq_true rfl) ?_
  have h1 := tkT_le (nb := nb) hp
  have h2 := tkT_le (nb := nb) h1.2
  have h3 := tkT_le (nb := nb) h2.2
  have h4 := tkT_le (nb := nb) h3.2
  have h5 := tkT_le (nb := nb) h4.2
  have hk := tkK_le (nb := nb) (n := n) (p := p)
  have hF := tkF_le (nb := nb) hp
  refine g_X7_readRank_0 hS hn hB hT ?_
  cases hw : wdG nb (tkK nb n p) (tkF nb n p) (tkT nb n p) with
  | false =>
    have e : (rkP nb n p) = (1, ((tkF nb n p : Nat) : Int), 0, 0) := by rw [rkP, if_pos hw]
    rw [e] at K2
    refine ⟨?_, ?_, ?_, ⟨?_, fun q => ⟨?_, ?_, ?_, fun q => ?_, fun q => ?_, fun q => ?_⟩, fun q => ⟨?_, ?_, ?_⟩⟩⟩
    all_goals first | omega | decide | exact K2 yf1 _ _ _ _ tkK_le | exact K2 yf2 _ _ _ _ tkK_le | (exfalso; simp only [hw] at *; omega) | (exfalso; rw [hw] at *; contradiction)
  | true =>
    by_cases a1 : tkK nb n (tkT nb n p) = 2
    · by_cases a2 : 1 ≤ vlT nb n (tkT nb n p) ∧ vlT nb n (tkT nb n p) ≤ 5
      · have e : (rkP nb n p) = (0, 0, tkT nb n (tkT nb n p), vlT nb n (tkT nb n p)) := by rw [rkP, if_neg (by rw [hw]; decide), if_neg (not_not_intro a1), if_neg (not_not_intro a2)]
        rw [e] at K1
        refine ⟨?_, ?_, ?_, ⟨?_, fun q => ⟨?_, ?_, ?_, fun q => ?_, fun q => ?_, fun q => ?_⟩, fun q => ⟨?_, ?_, ?_⟩⟩⟩
        all_goals first | omega | decide | exact K1 rfl | (exfalso; omega) | (exfalso; rw [hw] at *; contradiction)
      · have e : (rkP nb n p) = (2, ((tkF nb n (tkT nb n p) : Nat) : Int), 0, 0) := by rw [rkP, if_neg (by rw [hw]; decide), if_neg (not_not_intro a1), if_pos a2]
        rw [e] at K2
        refine ⟨?_, ?_, ?_, ⟨?_, fun q => ⟨?_, ?_, ?_, fun q => ?_, fun q => ?_, fun q => ?_⟩, fun q => ⟨?_, ?_, ?_⟩⟩⟩
        all_goals first | omega | decide | exact K2 yf1 _ _ _ _ tkK_le | exact K2 yf2 _ _ _ _ tkK_le | (exfalso; omega) | (exfalso; rw [hw] at *; contradiction)
    · have e : (rkP nb n p) = (1, ((tkF nb n (tkT nb n p) : Nat) : Int), 0, 0) := by rw [rkP, if_neg (by rw [hw]; decide), if_pos a1]
      rw [e] at K2
      refine ⟨?_, ?_, ?_, ⟨?_, fun q => ⟨?_, ?_, ?_, fun q => ?_, fun q => ?_, fun q => ?_⟩, fun q => ⟨?_, ?_, ?_⟩⟩⟩
      all_goals first | omega | decide | exact K2 yf1 _ _ _ _ tkK_le | exact K2 yf2 _ _ _ _ tkK_le | (exfalso; omega) | (exfalso; rw [hw] at *; contradiction)

