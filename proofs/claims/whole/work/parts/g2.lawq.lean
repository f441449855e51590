section SAME
variable {G : GG} {j : Nat} {me : Mth} {pc : Nat} {lo : List (Option AV)} {st : List AV} {M : AM} {B : BB} {post : Option AV → AM → Prop}
theorem sw_icmp_same {x off : Int} {tgt : Nat} (hd : decode me.2.1 pc = .ok (.if_icmp .eq off, 3)) (ht : (pc : Int) + off = (tgt : Int)) (K : SW G j me tgt lo st M B post) : SW G j me pc lo (vi x :: vi x :: st) M B post :=
  fun p e R s m args below meth c b fa fv cy D H locs ls Q C hH hL hE => lv_icmp_eq C.1.1 C.1.2.1 hd ht (fun _ => K p e R s m args below meth c b fa fv cy D H locs ls Q C hH hL hE) (fun h => absurd rfl h)
theorem sw_lcmp_same {x off : Int} {tgt : Nat} (hd : decode me.2.1 pc = .ok (.lcmp, 1)) (hd2 : decode me.2.1 (pc + 1) = .ok (.ifCond .eq off, 3)) (ht : ((pc + 1 : Nat) : Int) + off = (tgt : Int)) (K : SW G j me tgt lo st M B post) : SW G j me pc lo (vl x :: vl x :: st) M B post := by
  have e1 : Int64.ofInt (Int64.ofInt x).toInt = Int64.ofInt x := by
    generalize Int64.ofInt x = w
    simp
  have h := sw_lcmp_eq (x := (Int64.ofInt x).toInt) (y := (Int64.ofInt x).toInt) hd hd2 ht ⟨Int64.le_toInt _, Int64.toInt_lt _⟩ ⟨Int64.le_toInt _, Int64.toInt_lt _⟩ (fun _ => K) (fun h => absurd rfl h)
  intro p e R s m args below meth c b fa fv cy D H locs ls Q C hH hL hE
  have h2 := h p e R s m args below meth c b fa fv cy D H locs ls Q C hH hL hE
  simpa only [List.map_cons, cv, e1] using h2
end SAME
/-! THE LAW'S INVARIANT, whole -/
def INV (c : Nat → Nat → Int) (nw nx : Nat) (P : GD) (T : PT) (ln : Nat) (bo : Nat → Nat) (n : Nat) (nb : Nat → Nat) (MT MA : Nat) : Prop :=
  I_T c n nb ∧ I_P c ∧ I_R c (gR P) ln bo ∧ I_E c ∧ I_G c nw nx P T ln bo ∧ I_Q c P T ∧ I_M c MT MA
theorem i32rng (x : Int32) : -2147483648 ≤ x.toInt ∧ x.toInt < 2147483648 := ⟨Int32.le_toInt _, Int32.toInt_lt _⟩
theorem ML_row {c c2 : Nat → Nat → Int} {P : GD} (h : ML c P) (s : ∀ a, 48 < a → a < 61 → c2 a = c a) : ML c2 P := by
  unfold ML
  rw [s 49 (by decide) (by decide), s 51 (by decide) (by decide), s 54 (by decide) (by decide), s 55 (by decide) (by decide), s 56 (by decide) (by decide), s 57 (by decide) (by decide), s 58 (by decide) (by decide), s 59 (by decide) (by decide), s 60 (by decide) (by decide)]
  exact h
theorem RR_row {c c2 : Nat → Nat → Int} {P : GD} {T : PT} (h : RR P T c) (s : ∀ a, 48 < a → a < 67 → c2 a = c a) : RR P T c2 := by
  unfold RR RD PD
  rw [s 49 (by decide) (by decide), s 64 (by decide) (by decide), s 65 (by decide) (by decide), s 66 (by decide) (by decide)]
  exact h
theorem PR_row {c c2 : Nat → Nat → Int} {P : GD} {T : PT} (h : PR P T c) (s5 : c2 5 = c 5) (s6 : c2 6 = c 6) : PR P T c2 := by
  unfold PR
  rw [s5, s6]
  exact h
theorem I_R_row {c c2 : Nat → Nat → Int} {rk ln : Nat} {bo : Nat → Nat} (h : I_R c rk ln bo) (s : ∀ a, 48 < a → a < 62 → c2 a = c a) : I_R c2 rk ln bo := by
  unfold I_R RMx RMc LMc
  rw [s 49 (by decide) (by decide), s 51 (by decide) (by decide), s 52 (by decide) (by decide), s 53 (by decide) (by decide), s 54 (by decide) (by decide), s 55 (by decide) (by decide), s 56 (by decide) (by decide), s 57 (by decide) (by decide), s 58 (by decide) (by decide), s 59 (by decide) (by decide), s 60 (by decide) (by decide), s 61 (by decide) (by decide)]
  exact h
theorem I_M_row {c c2 : Nat → Nat → Int} {MT MA : Nat} (h : I_M c MT MA) (s : ∀ a, 14 < a → a < 20 → c2 a = c a) (s49 : c2 49 = c 49) (s2 : ∀ a, 72 < a → a < 78 → c2 a = c a) : I_M c2 MT MA := by
  unfold I_M
  rw [s 15 (by decide) (by decide), s 16 (by decide) (by decide), s 17 (by decide) (by decide), s 18 (by decide) (by decide), s 19 (by decide) (by decide), s49, s2 73 (by decide) (by decide), s2 74 (by decide) (by decide), s2 75 (by decide) (by decide), s2 76 (by decide) (by decide), s2 77 (by decide) (by decide)]
  exact h
theorem I_T_row {c c2 : Nat → Nat → Int} {n : Nat} {nb : Nat → Nat} (h : I_T c n nb) (s1 : c2 1 = c 1) (s2 : c2 2 = c 2) (s49 : c2 49 = c 49) (s50 : c2 50 = c 50) : I_T c2 n nb := by
  unfold I_T
  rw [s1, s2, s49, s50]
  exact h
theorem I_P_row {c c2 : Nat → Nat → Int} (h : I_P c) (s1 : c2 1 = c 1) (s3 : c2 3 = c 3) (s4 : c2 4 = c 4) (s49 : c2 49 = c 49) : I_P c2 := by
  unfold I_P
  rw [s1, s3, s4, s49]
  exact h
/-- only the class's own tables of queries have changed -/
theorem INV_CK {c c2 : Nat → Nat → Int} {nw nx : Nat} {P : GD} {T : PT} {ln : Nat} {bo : Nat → Nat} {n : Nat} {nb : Nat → Nat} {MT MA : Nat} (h : INV c nw nx P T ln bo n nb MT MA) (s : ∀ a, (a < 5 ∨ 14 < a) → a ≠ 20 → c2 a = c a) (hp : PR P T c2) (hc : CR P T c2) : INV c2 nw nx P T ln bo n nb MT MA := by
  obtain ⟨h1, h2, h3, h4, ⟨g1, g2, g3, g4, g5, g6, g7, g8⟩, ⟨_, _, h6⟩, h7⟩ := h
  refine ⟨I_T_row h1 (s 1 (by omega) (by omega)) (s 2 (by omega) (by omega)) (s 49 (by omega) (by omega)) (s 50 (by omega) (by omega)), I_P_row h2 (s 1 (by omega) (by omega)) (s 3 (by omega) (by omega)) (s 4 (by omega) (by omega)) (s 49 (by omega) (by omega)), I_R_row h3 (fun a ha hb => s a (by omega) (by omega)), ⟨EMk_same h4.1 (fun q hq => s _ (by omega) (by omega)), EMk_same h4.2 (fun q hq => s _ (by omega) (by omega))⟩, ⟨g1, g2, g3, g4, g5, EL_same g6 (fun q hq => s _ (by omega) (by omega)), ML_row g7 (fun a ha hb => s a (by omega) (by omega)), ?_⟩, ⟨hp, hc, RR_row h6 (fun a ha hb => s a (by omega) (by omega))⟩, I_M_row h7 (fun a ha hb => s a (by omega) (by omega)) (s 49 (by omega) (by omega)) (fun a ha hb => s a (by omega) (by omega))⟩
  rw [s 0 (by omega) (by omega)]
  exact g8
theorem INV_C0 {c c2 : Nat → Nat → Int} {nw nx : Nat} {P : GD} {T : PT} {ln : Nat} {bo : Nat → Nat} {n : Nat} {nb : Nat → Nat} {MT MA : Nat} (h : INV c nw nx P T ln bo n nb MT MA) (s : ∀ a, (a < 9 ∨ 14 < a) → a ≠ 20 → c2 a = c a) : INV c2 nw nx P T ln bo n nb MT MA :=
  INV_CK h (fun a ha hb => s a (by omega) hb) (PR_row h.2.2.2.2.2.1.1 (s 5 (by omega) (by omega)) (s 6 (by omega) (by omega))) (CR_same h.2.2.2.2.2.1.2.1 (s 7 (by omega) (by omega)) (s 8 (by omega) (by omega)))
theorem INV_SD {c c2 : Nat → Nat → Int} {nw nx : Nat} {P : GD} {T : PT} {ln : Nat} {bo : Nat → Nat} {n : Nat} {nb : Nat → Nat} {MT MA : Nat} (h : INV c nw nx P T ln bo n nb MT MA) (s : SD c c2) (hr : RR P T c2) : INV c2 nw nx P T ln bo n nb MT MA := by
  obtain ⟨h1, h2, h3, h4, h5, ⟨q1, q2, _⟩, h7⟩ := h
  have e24 : c2 49 24 = 0 ∨ c2 49 24 = 1 := by
    rcases hr with q | q
    · exact Or.inl q
    · exact Or.inr q.1
  have sk := SK_SD s
  exact ⟨I_T_SK h1 sk, I_P_SK h2 sk, I_R_SK h3 sk e24, I_E_SK h4 sk, I_G_SK h5 sk, ⟨PR_row q1 (s.1 5 (by omega)) (s.1 6 (by omega)), CR_same q2 (s.1 7 (by omega)) (s.1 8 (by omega)), hr⟩, I_M_SD h7 s⟩
theorem INV_SK {c c2 : Nat → Nat → Int} {nw nx : Nat} {P : GD} {T : PT} {ln : Nat} {bo : Nat → Nat} {n : Nat} {nb : Nat → Nat} {MT MA MT2 MA2 : Nat} (h : INV c nw nx P T ln bo n nb MT MA) (sk : SK c c2) (hr : RR P T c2) (hm : I_M c2 MT2 MA2) : INV c2 nw nx P T ln bo n nb MT2 MA2 := by
  obtain ⟨h1, h2, h3, h4, h5, ⟨q1, q2, _⟩, _⟩ := h
  have e24 : c2 49 24 = 0 ∨ c2 49 24 = 1 := by
    rcases hr with q | q
    · exact Or.inl q
    · exact Or.inr q.1
  exact ⟨I_T_SK h1 sk, I_P_SK h2 sk, I_R_SK h3 sk e24, I_E_SK h4 sk, I_G_SK h5 sk, ⟨PR_row q1 (sk.1 5 (by omega)) (sk.1 6 (by omega)), CR_same q2 (sk.1 7 (by omega)) (sk.1 8 (by omega)), hr⟩, hm⟩
theorem INV_SC {c c2 : Nat → Nat → Int} {nw nx : Nat} {P : GD} {T : PT} {ln : Nat} {bo : Nat → Nat} {n : Nat} {nb : Nat → Nat} {MT MA : Nat} (h : INV c nw nx P T ln bo n nb MT MA) (s : SC c c2) : INV c2 nw nx P T ln bo n nb MT MA :=
  INV_SD h (SD_SC s) (RR_SC h.2.2.2.2.2.1.2.2 s)
/-- the answers of the two sides that are written differently -/
theorem c9_fault {G : GG} {j nw nx gn : Nat} {g : Nat → Sh} {c : Nat → Nat → Int} {post : Option AV → AM → Prop} {x : Int} (h : c 3 3 = c 49 2 ∧ c 3 4 = c 49 3) (p1 : -2147483648 ≤ x ∧ x < 2147483648) (K : post (some (vi (q_fault (c 3 3) (c 3 4) x))) (S nw nx g, 78 + gn, c)) : SM G (j + 1) mX9_fault [vr 49, vi x] (S nw nx g, 78 + gn, c) 0 0 post :=
  c_X9_fault p1 (by rw [← h.1, ← h.2]; exact K)
theorem c9_count {G : GG} {j nw nx gn : Nat} {g : Nat → Sh} {c : Nat → Nat → Int} {post : Option AV → AM → Prop} {P : GD} {x : Int} (hM : ML c P) (hV : GV P) (h : c 0 10 = c 49 5 ∧ c 15 5 = c 49 39 ∧ c 1 1 = c 49 1) (p1 : -2147483648 ≤ x ∧ x < 2147483648) (K : post (some (vi (q_count P (c 0 10) (c 15 5) (c 1 1) x))) (S nw nx g, 78 + gn, c)) : SM G (j + 2) mX9_count [vr 49, vi x] (S nw nx g, 78 + gn, c) 0 0 post :=
  c_X9_count hM hV p1 (by rw [← h.1, ← h.2.1, ← h.2.2]; exact K)
theorem c9_back {G : GG} {j nw nx gn : Nat} {g : Nat → Sh} {c : Nat → Nat → Int} {post : Option AV → AM → Prop} {P : GD} {T9 A9 : Nat} {x I h : Int} (hM : ML c P) (hV : GV P) (hT9 : c 49 38 = ((T9 : Nat) : Int)) (hA9 : c 49 39 = ((A9 : Nat) : Int)) (hI : 0 ≤ x → x < 3 → c 77 x.toNat = h ∧ (h = 0 ∨ h = 1)) (hh : I = -1 ↔ ¬ h = 1) (p1 : -2147483648 ≤ x ∧ x < 2147483648) (K : post (some (vi (q_back P x I))) (S nw nx g, 78 + gn, m9_back P x h c)) : SM G (j + 2) mX9_back [vr 49, vi x] (S nw nx g, 78 + gn, c) 0 0 post := by
  refine c_X9_back hM hV hT9 hA9 hI p1 ?_
  have e : q_back P x (if h = 1 then 0 else -1) = q_back P x I := by
    unfold q_back
    by_cases q : h = 1
    · have : ¬ I = -1 := fun z => hh.mp z q
      simp [q, this]
    · simp [q, hh.mpr q]
  rw [e]
  exact K

