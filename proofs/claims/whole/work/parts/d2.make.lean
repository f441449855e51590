theorem c_X1_fillProducts2 {G : GG} {j nw nx gn : Nat} {g : Nat → Sh} {c : Nat → Nat → Int} {post : Option AV → AM → Prop} {e : Nat} {P : GD} {be : Nat → Nat} {le : Nat → Nat} {hd : Nat → Nat} {ls : Nat → Nat} {st : Nat → Int} {pr : Nat → Nat} {iv : Nat → Nat} {fa : Nat → Nat} {eb : Nat → Nat} {ml : Nat → Nat} {mf : Nat → Int} {rw : Nat → Nat} {dn : Nat → Nat} {mm : Nat} (he : e = 21 ∨ e = 35) (hle : ∀ x, x < gN P → le x = gL P x) (hhd : ∀ x, x < gN P → hd x = gH P x) (hls : ∀ x, x < gN P → ls x = gA P x) (hst : ∀ x s, x < gN P → s < gR P → st (x * 5 + s) = ((gS P x s : Nat) : Int)) (hV : GV P) (hC : GC P) (hP : FQ P) (h0 : 0 < gN P) (K : ∀ pr iv : Nat → Nat, (∀ x y, x < gN P → y < gN P → pr (x * 60 + y) = gX P x y) ∧ (∀ x, x < gN P → iv x = gI P x) → post none (S nw nx g, 78 + gn, (em c e be le hd ls st pr iv fa eb ml mf rw dn (gR P) (gN P) mm))) : SM G (j + 2) mX1_fillProducts [vr (e)] (S nw nx g, 78 + gn, (em c e be le hd ls st pr iv fa eb ml mf rw dn (gR P) (gN P) mm)) 0 0 post := c_X1_fillProducts he hle hhd hls hst hV hC hP h0 (fun pr iv a b => K pr iv ⟨a, b⟩)

theorem c_X1_findAll_good2 {G : GG} {j nw nx gn : Nat} {g : Nat → Sh} {c : Nat → Nat → Int} {post : Option AV → AM → Prop} {e : Nat} {P : GD} {be : Nat → Nat} {le : Nat → Nat} {hd : Nat → Nat} {ls : Nat → Nat} {st : Nat → Int} {pr : Nat → Nat} {iv : Nat → Nat} {fa : Nat → Nat} {eb : Nat → Nat} {ml : Nat → Nat} {mf : Nat → Int} {rw : Nat → Nat} {dn : Nat → Nat} {mm : Nat} (he : e = 21 ∨ e = 35) (hV : GV P) (hC : GC P) (hO : FO P) (hK : FK1 P) (hP : FQ P) (hB : FB P) (h0 : 0 < gN P) (hbe : ∀ s t, s < gR P → t < gR P → t ≠ s → be (s * 5 + t) = gB P s t) (hbb : ∀ s t, s < gR P → t < gR P → s ≠ t → 2 ≤ be (s * 5 + t) ∧ be (s * 5 + t) ≤ 12) (K : ∀ (le hd ls : Nat → Nat) (st : Nat → Int), (∀ y, y < gN P → le y = gL P y ∧ hd y = gH P y ∧ ls y = gA P y) ∧ (∀ x t, x < gN P → t < gR P → st (x * 5 + t) = ((gS P x t : Nat) : Int)) → post (some (vi 1)) (S nw nx g, 78 + gn, (em c e be le hd ls st pr iv fa eb ml mf rw dn (gR P) (gN P) mm))) : SM G (j + 4) mX1_findAll [vr (e)] (S nw nx g, 78 + gn, (em c e be le hd ls st pr iv fa eb ml mf rw dn (gR P) 0 mm)) 0 0 post := c_X1_findAll_good he hV hC hO hK h0 hbe hbb (fun le hd ls st a b => K le hd ls st ⟨a, b⟩)

set_option maxHeartbeats 2000000 in
set_option maxRecDepth 20000 in
theorem g_X1_make_66g {G : GG} {j nw nx gn : Nat} {g : Nat → Sh} {c : Nat → Nat → Int} {post : Option AV → AM → Prop} {e : Nat} (he : e = 21 ∨ e = 35) {P : GD} {be : Nat → Nat} {le : Nat → Nat} {hd : Nat → Nat} {ls : Nat → Nat} {st : Nat → Int} {pr : Nat → Nat} {iv : Nat → Nat} {fa : Nat → Nat} {eb : Nat → Nat} {ml : Nat → Nat} {mf : Nat → Int} {rw : Nat → Nat} {dn : Nat → Nat} {mm : Nat} (hV : GV P) (hC : GC P) (hO : FO P) (hK : FK1 P) (hP : FQ P) (hB : FB P) (h0 : 0 < gN P) (hbe : ∀ s t, s < gR P → t < gR P → t ≠ s → be (s * 5 + t) = gB P s t) (hbb : ∀ s t, s < gR P → t < gR P → s ≠ t → 2 ≤ be (s * 5 + t) ∧ be (s * 5 + t) ≤ 12)  (hv : (∀ (le_1 : Nat → Nat), ∀ (hd_1 : Nat → Nat), ∀ (ls_1 : Nat → Nat), ∀ (st_1 : Nat → Int), ((∀ y, y < gN P → le_1 y = gL P y ∧ hd_1 y = gH P y ∧ ls_1 y = gA P y) ∧ (∀ x t, x < gN P → t < gR P → st_1 (x * 5 + t) = ((gS P x t : Nat) : Int))) → SW G (j + 4) mX1_make 75 [some (vr (e)), none, none] [] (S nw nx g, 78 + gn, (em c e be le_1 hd_1 ls_1 st_1 pr iv fa eb ml mf rw dn (gR P) (gN P) mm)) B0 post)) :
    SW G (j + 4) mX1_make 66 [some (vr (e)), none, none] [] (S nw nx g, 78 + gn, (em c e be le hd ls st pr iv fa eb ml mf rw dn (gR P) 0 mm)) B0 post := by
  refine sw_aload_n (dX1_make.at 37 rfl) rfl rfl ?_
  refine sw_callV (B' := B0) (As := []) (mc := 0) (ms := 0) (dX1_make.at 38 rfl) lk_X1_66 (S_e_lt he) (S_e he) rfl rfl (Nat.le_of_ble_eq_true rfl) rfl (Nat.le_refl _) (Nat.le_refl _) ?_
  refine c_X1_findAll_good2 (j := j + 0) he hV hC hO hK hP hB h0 hbe hbb (fun le_1 hd_1 ls_1 st_1 q2 => ?_) 
  · replace hv := hv le_1 hd_1 ls_1 st_1 q2
    refine sw_if_ne (tgt := 75) (dX1_make.at 39 rfl) (by decide) (by decide) (fun q => ?_) (fun q => ?_)
    · clear q
      exact hv
    · exact absurd q (by decide)

set_option maxHeartbeats 2000000 in
set_option maxRecDepth 20000 in
theorem g_X1_make_75 {G : GG} {j nw nx gn : Nat} {g : Nat → Sh} {c : Nat → Nat → Int} {post : Option AV → AM → Prop} {e : Nat} (he : e = 21 ∨ e = 35) {P : GD} {be : Nat → Nat} {le : Nat → Nat} {hd : Nat → Nat} {ls : Nat → Nat} {st : Nat → Int} {pr : Nat → Nat} {iv : Nat → Nat} {fa : Nat → Nat} {eb : Nat → Nat} {ml : Nat → Nat} {mf : Nat → Int} {rw : Nat → Nat} {dn : Nat → Nat} {mm : Nat} (hle : ∀ x, x < gN P → le x = gL P x) (hhd : ∀ x, x < gN P → hd x = gH P x) (hls : ∀ x, x < gN P → ls x = gA P x) (hst : ∀ x s, x < gN P → s < gR P → st (x * 5 + s) = ((gS P x s : Nat) : Int)) (hV : GV P) (hC : GC P) (hP : FQ P) (h0 : 0 < gN P)  (hv : (∀ (pr_1 : Nat → Nat), ∀ (iv_1 : Nat → Nat), ((∀ x y, x < gN P → y < gN P → pr_1 (x * 60 + y) = gX P x y) ∧ (∀ x, x < gN P → iv_1 x = gI P x)) → SW G (j + 4) mX1_make 79 [some (vr (e)), none, none] [] (S nw nx g, 78 + gn, (em c e be le hd ls st pr_1 iv_1 fa eb ml mf rw dn (gR P) (gN P) mm)) B0 post)) :
    SW G (j + 4) mX1_make 75 [some (vr (e)), none, none] [] (S nw nx g, 78 + gn, (em c e be le hd ls st pr iv fa eb ml mf rw dn (gR P) (gN P) mm)) B0 post := by
  refine sw_aload_n (dX1_make.at 42 rfl) rfl rfl ?_
  refine sw_callV (B' := B0) (As := []) (mc := 0) (ms := 0) (dX1_make.at 43 rfl) lk_X1_70 (S_e_lt he) (S_e he) rfl rfl (Nat.le_of_ble_eq_true rfl) rfl (Nat.le_refl _) (Nat.le_refl _) ?_
  refine c_X1_fillProducts2 (j := j + 2) he hle hhd hls hst hV hC hP h0 (fun pr_1 iv_1 q2 => ?_) 
  · replace hv := hv pr_1 iv_1 q2
    exact hv

set_option maxHeartbeats 2000000 in
set_option maxRecDepth 20000 in
theorem g_X1_make_79 {G : GG} {j nw nx gn : Nat} {g : Nat → Sh} {c : Nat → Nat → Int} {post : Option AV → AM → Prop} {e : Nat} (he : e = 21 ∨ e = 35) {P : GD} {be : Nat → Nat} {le : Nat → Nat} {hd : Nat → Nat} {ls : Nat → Nat} {st : Nat → Int} {pr : Nat → Nat} {iv : Nat → Nat} {fa : Nat → Nat} {eb : Nat → Nat} {ml : Nat → Nat} {mf : Nat → Int} {rw : Nat → Nat} {dn : Nat → Nat} {mm : Nat} (hle : ∀ x, x < gN P → le x = gL P x) (hhd : ∀ x, x < gN P → hd x = gH P x) (hls : ∀ x, x < gN P → ls x = gA P x) (hst : ∀ x s, x < gN P → s < gR P → st (x * 5 + s) = ((gS P x s : Nat) : Int)) (hV : GV P) (hC : GC P) (hpr : ∀ x y, x < gN P → y < gN P → pr (x * 60 + y) = gX P x y) (hiv : ∀ x, x < gN P → iv x = gI P x) (hP : FQ P)  (hv : (∀ (fa_1 : Nat → Nat), ∀ (eb_1 : Nat → Nat), (∀ x, x < gN P → fa_1 x = gF P x ∧ eb_1 x = gE P x) → SW G (j + 4) mX1_make 83 [some (vr (e)), none, none] [] (S nw nx g, 78 + gn, (em c e be le hd ls st pr iv fa_1 eb_1 ml mf rw dn (gR P) (gN P) mm)) B0 post)) :
    SW G (j + 4) mX1_make 79 [some (vr (e)), none, none] [] (S nw nx g, 78 + gn, (em c e be le hd ls st pr iv fa eb ml mf rw dn (gR P) (gN P) mm)) B0 post := by
  refine sw_aload_n (dX1_make.at 44 rfl) rfl rfl ?_
  refine sw_callV (B' := B0) (As := []) (mc := 0) (ms := 0) (dX1_make.at 45 rfl) lk_X1_73 (S_e_lt he) (S_e he) rfl rfl (Nat.le_of_ble_eq_true rfl) rfl (Nat.le_refl _) (Nat.le_refl _) ?_
  refine c_X1_fillDescents (j := j + 2) he hle hhd hls hst hV hC hpr hiv hP (fun fa_1 eb_1 q2 => ?_) 
  · replace hv := hv fa_1 eb_1 q2
    exact hv

set_option maxHeartbeats 2000000 in
set_option maxRecDepth 20000 in
theorem g_X1_make_83 {G : GG} {j nw nx gn : Nat} {g : Nat → Sh} {c : Nat → Nat → Int} {post : Option AV → AM → Prop} {e : Nat} (he : e = 21 ∨ e = 35) {P : GD} {be : Nat → Nat} {le : Nat → Nat} {hd : Nat → Nat} {ls : Nat → Nat} {st : Nat → Int} {pr : Nat → Nat} {iv : Nat → Nat} {fa : Nat → Nat} {eb : Nat → Nat} {ml : Nat → Nat} {mf : Nat → Int} {rw : Nat → Nat} {dn : Nat → Nat} {mm : Nat} (hle : ∀ x, x < gN P → le x = gL P x) (hhd : ∀ x, x < gN P → hd x = gH P x) (hls : ∀ x, x < gN P → ls x = gA P x) (hst : ∀ x s, x < gN P → s < gR P → st (x * 5 + s) = ((gS P x s : Nat) : Int)) (hV : GV P) (hC : GC P) (hpr : ∀ x y, x < gN P → y < gN P → pr (x * 60 + y) = gX P x y) (hiv : ∀ x, x < gN P → iv x = gI P x) (heb : ∀ x, x < gN P → eb x = gE P x) (hP : FQ P) (hO : FO P) (h0 : 0 < gN P)  (hv : (∀ (rw_1 : Nat → Nat), (∀ x, x < gN P → rw_1 x = gW P x) → SW G (j + 4) mX1_make 87 [some (vr (e)), none, none] [] (S nw nx g, 78 + gn, (em c e be le hd ls st pr iv fa eb ml mf rw_1 dn (gR P) (gN P) mm)) B0 post)) :
    SW G (j + 4) mX1_make 83 [some (vr (e)), none, none] [] (S nw nx g, 78 + gn, (em c e be le hd ls st pr iv fa eb ml mf rw dn (gR P) (gN P) mm)) B0 post := by
  refine sw_aload_n (dX1_make.at 46 rfl) rfl rfl ?_
  refine sw_callV (B' := B0) (As := []) (mc := 0) (ms := 0) (dX1_make.at 47 rfl) lk_X1_76 (S_e_lt he) (S_e he) rfl rfl (Nat.le_of_ble_eq_true rfl) rfl (Nat.le_refl _) (Nat.le_refl _) ?_
  refine c_X1_fillRows (j := j + 2) he hle hhd hls hst hV hC hpr hiv heb hP hO h0 (fun rw_1 q2 => ?_) 
  · replace hv := hv rw_1 q2
    exact hv

set_option maxHeartbeats 2000000 in
set_option maxRecDepth 20000 in
theorem g_X1_make_87 {G : GG} {j nw nx gn : Nat} {g : Nat → Sh} {c : Nat → Nat → Int} {post : Option AV → AM → Prop} {e : Nat} (he : e = 21 ∨ e = 35) {P : GD} {be : Nat → Nat} {le : Nat → Nat} {hd : Nat → Nat} {ls : Nat → Nat} {st : Nat → Int} {pr : Nat → Nat} {iv : Nat → Nat} {fa : Nat → Nat} {eb : Nat → Nat} {ml : Nat → Nat} {mf : Nat → Int} {rw : Nat → Nat} {dn : Nat → Nat} {mm : Nat} (hle : ∀ x, x < gN P → le x = gL P x) (hhd : ∀ x, x < gN P → hd x = gH P x) (hls : ∀ x, x < gN P → ls x = gA P x) (hst : ∀ x s, x < gN P → s < gR P → st (x * 5 + s) = ((gS P x s : Nat) : Int)) (hV : GV P) (hC : GC P) (hP : FQ P) (h0 : 0 < gN P)  (hv : (∀ (dn_1 : Nat → Nat), (∀ x, x < gN P → dn_1 x = gD P x) → SW G (j + 4) mX1_make 91 [some (vr (e)), none, none] [] (S nw nx g, 78 + gn, (em c e be le hd ls st pr iv fa eb ml mf rw dn_1 (gR P) (gN P) mm)) B0 post)) :
    SW G (j + 4) mX1_make 87 [some (vr (e)), none, none] [] (S nw nx g, 78 + gn, (em c e be le hd ls st pr iv fa eb ml mf rw dn (gR P) (gN P) mm)) B0 post := by
  refine sw_aload_n (dX1_make.at 48 rfl) rfl rfl ?_
  refine sw_callV (B' := B0) (As := []) (mc := 0) (ms := 0) (dX1_make.at 49 rfl) lk_X1_79 (S_e_lt he) (S_e he) rfl rfl (Nat.le_of_ble_eq_true rfl) rfl (Nat.le_refl _) (Nat.le_refl _) ?_
  refine c_X1_fillDowns (j := j + 1) he hle hhd hls hst hV hC hP h0 (fun dn_1 q2 => ?_) 
  · replace hv := hv dn_1 q2
    exact hv

set_option maxHeartbeats 2000000 in
set_option maxRecDepth 20000 in
theorem g_X1_make_91 {G : GG} {j nw nx gn : Nat} {g : Nat → Sh} {c : Nat → Nat → Int} {post : Option AV → AM → Prop} {e : Nat} (he : e = 21 ∨ e = 35) {P : GD} {be : Nat → Nat} {le : Nat → Nat} {hd : Nat → Nat} {ls : Nat → Nat} {st : Nat → Int} {pr : Nat → Nat} {iv : Nat → Nat} {fa : Nat → Nat} {eb : Nat → Nat} {ml : Nat → Nat} {mf : Nat → Int} {rw : Nat → Nat} {dn : Nat → Nat} (hle : ∀ x, x < gN P → le x = gL P x) (hhd : ∀ x, x < gN P → hd x = gH P x) (hls : ∀ x, x < gN P → ls x = gA P x) (hst : ∀ x s, x < gN P → s < gR P → st (x * 5 + s) = ((gS P x s : Nat) : Int)) (hV : GV P) (hC : GC P) (hpr : ∀ x y, x < gN P → y < gN P → pr (x * 60 + y) = gX P x y) (hiv : ∀ x, x < gN P → iv x = gI P x) (hB : FB P)  (hv : (∀ (ml_1 : Nat → Nat), (∀ i, i < gM P → ml_1 i = gT P i) → SW G (j + 4) mX1_make 95 [some (vr (e)), none, none] [] (S nw nx g, 78 + gn, (em c e be le hd ls st pr iv fa eb ml_1 mf rw dn (gR P) (gN P) (gM P))) B0 post)) :
    SW G (j + 4) mX1_make 91 [some (vr (e)), none, none] [] (S nw nx g, 78 + gn, (em c e be le hd ls st pr iv fa eb ml mf rw dn (gR P) (gN P) 0)) B0 post := by
  refine sw_aload_n (dX1_make.at 50 rfl) rfl rfl ?_
  refine sw_callV (B' := B0) (As := []) (mc := 0) (ms := 0) (dX1_make.at 51 rfl) lk_X1_82 (S_e_lt he) (S_e he) rfl rfl (Nat.le_of_ble_eq_true rfl) rfl (Nat.le_refl _) (Nat.le_refl _) ?_
  refine c_X1_fillMirrors (j := j + 2) he hle hhd hls hst hV hC hpr hiv hB (fun ml_1 q2 => ?_) 
  · replace hv := hv ml_1 q2
    exact hv

set_option maxHeartbeats 2000000 in
set_option maxRecDepth 20000 in
theorem g_X1_make_95 {G : GG} {j nw nx gn : Nat} {g : Nat → Sh} {c : Nat → Nat → Int} {post : Option AV → AM → Prop} {e : Nat} (he : e = 21 ∨ e = 35) {P : GD} {be : Nat → Nat} {le : Nat → Nat} {hd : Nat → Nat} {ls : Nat → Nat} {st : Nat → Int} {pr : Nat → Nat} {iv : Nat → Nat} {fa : Nat → Nat} {eb : Nat → Nat} {ml : Nat → Nat} {mf : Nat → Int} {rw : Nat → Nat} {dn : Nat → Nat} (hle : ∀ x, x < gN P → le x = gL P x) (hhd : ∀ x, x < gN P → hd x = gH P x) (hls : ∀ x, x < gN P → ls x = gA P x) (hst : ∀ x s, x < gN P → s < gR P → st (x * 5 + s) = ((gS P x s : Nat) : Int)) (hV : GV P) (hC : GC P) (hpr : ∀ x y, x < gN P → y < gN P → pr (x * 60 + y) = gX P x y) (hiv : ∀ x, x < gN P → iv x = gI P x) (hml : ∀ i, i < gM P → ml i = gT P i) (hP : FQ P)  (hv : (∀ (mf_1 : Nat → Int), (∀ y, y < gN P → mf_1 y = ((gO P y : Nat) : Int)) → post (some (vi (1))) (S nw nx g, 78 + gn, (em c e be le hd ls st pr iv fa eb ml mf_1 rw dn (gR P) (gN P) (gM P))))) :
    SW G (j + 4) mX1_make 95 [some (vr (e)), none, none] [] (S nw nx g, 78 + gn, (em c e be le hd ls st pr iv fa eb ml mf rw dn (gR P) (gN P) (gM P))) B0 post := by
  refine sw_aload_n (dX1_make.at 52 rfl) rfl rfl ?_
  refine sw_callV (B' := B0) (As := []) (mc := 0) (ms := 0) (dX1_make.at 53 rfl) lk_X1_85 (S_e_lt he) (S_e he) rfl rfl (Nat.le_of_ble_eq_true rfl) rfl (Nat.le_refl _) (Nat.le_refl _) ?_
  refine c_X1_fillMirrorsOf (j := j + 1) he hle hhd hls hst hV hC hpr hiv hml hP (fun mf_1 q2 => ?_) 
  · replace hv := hv mf_1 q2
    refine sw_iconst (dX1_make.at 54 rfl) ?_
    exact sw_zret (dX1_make.at 55 rfl) rfl (by decide) (Nat.le_refl _) (Nat.le_refl _) hv

set_option maxHeartbeats 2000000 in
set_option maxRecDepth 20000 in
theorem g_X1_make_0 {G : GG} {j nw nx gn : Nat} {g : Nat → Sh} {c : Nat → Nat → Int} {post : Option AV → AM → Prop} {e : Nat} (he : e = 21 ∨ e = 35) {be : Nat → Nat} {le : Nat → Nat} {hd : Nat → Nat} {ls : Nat → Nat} {st : Nat → Int} {pr : Nat → Nat} {iv : Nat → Nat} {fa : Nat → Nat} {eb : Nat → Nat} {ml : Nat → Nat} {mf : Nat → Int} {rw : Nat → Nat} {dn : Nat → Nat} {rk : Nat} {mn : Nat} {mm : Nat} {r : Nat} {bd : Nat → Nat} (hTr : c 3 1 = ((r : Nat) : Int)) (hTb : ∀ i, i < 25 → c 4 i = ((bd i : Nat) : Int))  (hv : SW G (j + 4) mX1_make 20 [some (vr (e)), some (vr (3)), some (vi (0))] [] (S nw nx g, 78 + gn, (em c e be le hd ls st pr iv fa eb ml mf rw dn r 0 0)) B0 post) :
    SW G (j + 4) mX1_make 0 [some (vr (e)), some (vr (3)), none] [] (S nw nx g, 78 + gn, (em c e be le hd ls st pr iv fa eb ml mf rw dn rk mn mm)) B0 post := by
  refine sw_aload_n (dX1_make.at 0 rfl) rfl rfl ?_
  refine sw_aload_n (dX1_make.at 1 rfl) rfl rfl ?_
  refine sw_getIE (w := ((r : Nat) : Int)) (dX1_make.at 2 rfl) fp_X1_52 (S_lt 3 (by decide)) (S_3 nw nx g) rfl ((em_lo he (by decide)).trans hTr) ?_
  refine sw_putI (dX1_make.at 3 rfl) fp_X1_58 (S_e_lt he) (S_e he) rfl ?_
  refine SW.cg (M' := (S nw nx g, 78 + gn, (em c e be le hd ls st pr iv fa eb ml mf rw dn r mn mm))) (congrArg (fun m => (S nw nx g, 78 + gn, m)) em_p13) ?_
  refine sw_aload_n (dX1_make.at 4 rfl) rfl rfl ?_
  refine sw_iconst (dX1_make.at 5 rfl) ?_
  refine sw_putI (dX1_make.at 6 rfl) fp_X1_59 (S_e_lt he) (S_e he) rfl ?_
  refine SW.cg (M' := (S nw nx g, 78 + gn, (em c e be le hd ls st pr iv fa eb ml mf rw dn r 0 mm))) (congrArg (fun m => (S nw nx g, 78 + gn, m)) em_p14) ?_
  refine sw_aload_n (dX1_make.at 7 rfl) rfl rfl ?_
  refine sw_iconst (dX1_make.at 8 rfl) ?_
  refine sw_putI (dX1_make.at 9 rfl) fp_X1_62 (S_e_lt he) (S_e he) rfl ?_
  refine SW.cg (M' := (S nw nx g, 78 + gn, (em c e be le hd ls st pr iv fa eb ml mf rw dn r 0 0))) (congrArg (fun m => (S nw nx g, 78 + gn, m)) em_p15) ?_
  refine sw_iconst (dX1_make.at 10 rfl) ?_
  refine sw_istore_n (lo' := [some (vr (e)), some (vr (3)), some (vi (0))]) (dX1_make.at 11 rfl) rfl (by decide) rfl ?_
  exact hv

set_option maxHeartbeats 2000000 in
set_option maxRecDepth 20000 in
theorem g_X1_make_20 {G : GG} {j nw nx gn : Nat} {g : Nat → Sh} {c : Nat → Nat → Int} {post : Option AV → AM → Prop} {e : Nat} (he : e = 21 ∨ e = 35) {be : Nat → Nat} {le : Nat → Nat} {hd : Nat → Nat} {ls : Nat → Nat} {st : Nat → Int} {pr : Nat → Nat} {iv : Nat → Nat} {fa : Nat → Nat} {eb : Nat → Nat} {ml : Nat → Nat} {mf : Nat → Int} {rw : Nat → Nat} {dn : Nat → Nat} {r : Nat} {bd : Nat → Nat} {uu : Nat} (hTr : c 3 1 = ((r : Nat) : Int)) (hTb : ∀ i, i < 25 → c 4 i = ((bd i : Nat) : Int))  (hv : (uu < 2147483648) ∧ (((25 ≤ uu) → SW G (j + 4) mX1_make 57 [some (vr (e)), none, none] [] (S nw nx g, 78 + gn, (em c e be le hd ls st pr iv fa eb ml mf rw dn r 0 0)) B0 post) ∧ ((¬ (25 ≤ uu)) → (uu < 25) ∧ ((bd uu < 2147483648) ∧ (((bd uu ≠ 0) → (uu < 25) ∧ ((uu < 25) ∧ (SW G (j + 4) mX1_make 20 [some (vr (e)), some (vr (3)), some (vi (((uu + 1 : Nat) : Int)))] [] (S nw nx g, 78 + gn, (em c e (uN be uu (bd uu)) le hd ls st pr iv fa eb ml mf rw dn r 0 0)) B0 post))) ∧ ((bd uu = 0) → (uu < 25) ∧ (SW G (j + 4) mX1_make 20 [some (vr (e)), some (vr (3)), some (vi (((uu + 1 : Nat) : Int)))] [] (S nw nx g, 78 + gn, (em c e (uN be uu 2) le hd ls st pr iv fa eb ml mf rw dn r 0 0)) B0 post))))))) :
    SW G (j + 4) mX1_make 20 [some (vr (e)), some (vr (3)), some (vi (((uu : Nat) : Int)))] [] (S nw nx g, 78 + gn, (em c e be le hd ls st pr iv fa eb ml mf rw dn r 0 0)) B0 post := by
  refine sw_iload_n (dX1_make.at 12 rfl) rfl rfl ?_
  refine sw_bipush (dX1_make.at 13 rfl) (by decide) ?_
  refine sw_icmpN_ge uu 25 (tgt := 57) (dX1_make.at 14 rfl) (by decide) hv.1 (by decide) (fun q => ?_) (fun q => ?_)
  · replace hv := hv.2.1 q
    exact sw_mask (bs := [true, false, false]) hv
  · replace hv := hv.2.2 q
    refine sw_aload_n (dX1_make.at 15 rfl) rfl rfl ?_
    refine sw_getR (dX1_make.at 16 rfl) fp_X1_9 (S_e_lt he) (S_e he) rfl rfl ?_
    refine sw_iload_n (dX1_make.at 17 rfl) rfl rfl ?_
    refine sw_aload_n (dX1_make.at 18 rfl) rfl rfl ?_
    refine sw_getR (dX1_make.at 19 rfl) fp_X1_65 (S_lt 3 (by decide)) (S_3 nw nx g) rfl rfl ?_
    refine sw_iload_n (dX1_make.at 20 rfl) rfl rfl ?_
    refine sw_ialdN uu (w := ((bd uu : Nat) : Int)) (dX1_make.at 21 rfl) (S_lt 4 (by decide)) (S_4 nw nx g) (by decide) hv.1 ((em_lo he (by decide)).trans (hTb _ hv.1)) ?_
    replace hv := hv.2
    refine sw_ifN_ne (bd uu) (tgt := 44) (dX1_make.at 22 rfl) (by decide) hv.1 (fun q => ?_) (fun q => ?_)
    · replace hv := hv.2.1 q
      refine sw_aload_n (dX1_make.at 25 rfl) rfl rfl ?_
      refine sw_getR (dX1_make.at 26 rfl) fp_X1_65 (S_lt 3 (by decide)) (S_3 nw nx g) rfl rfl ?_
      refine sw_iload_n (dX1_make.at 27 rfl) rfl rfl ?_
      refine sw_ialdN uu (w := ((bd uu : Nat) : Int)) (dX1_make.at 28 rfl) (S_lt 4 (by decide)) (S_4 nw nx g) (by decide) hv.1 ((em_lo he (by decide)).trans (hTb _ hv.1)) ?_
      replace hv := hv.2
      refine sw_iastN uu (dX1_make.at 29 rfl) (S_ek_lt he (by decide)) (S_e_1 he) (by decide) hv.1 ?_
      refine SW.cg (M' := (S nw nx g, 78 + gn, (em c e (uN be uu (bd uu)) le hd ls st pr iv fa eb ml mf rw dn r 0 0))) (congrArg (fun m => (S nw nx g, 78 + gn, m)) em_w1) ?_
      replace hv := hv.2
      refine sw_iinc (lo' := [some (vr (e)), some (vr (3)), some (vi (((uu + 1 : Nat) : Int)))]) (dX1_make.at 30 rfl) rfl (by decide) rfl ?_
      refine sw_goto (tgt := 20) (dX1_make.at 31 rfl) (by decide) ?_
      exact hv
    · replace hv := hv.2.2 q
      refine sw_iconst (dX1_make.at 23 rfl) ?_
      refine sw_goto (tgt := 50) (dX1_make.at 24 rfl) (by decide) ?_
      refine sw_iastN uu (dX1_make.at 29 rfl) (S_ek_lt he (by decide)) (S_e_1 he) (by decide) hv.1 ?_
      refine SW.cg (M' := (S nw nx g, 78 + gn, (em c e (uN be uu 2) le hd ls st pr iv fa eb ml mf rw dn r 0 0))) (congrArg (fun m => (S nw nx g, 78 + gn, m)) em_w1) ?_
      replace hv := hv.2
      refine sw_iinc (lo' := [some (vr (e)), some (vr (3)), some (vi (((uu + 1 : Nat) : Int)))]) (dX1_make.at 30 rfl) rfl (by decide) rfl ?_
      refine sw_goto (tgt := 20) (dX1_make.at 31 rfl) (by decide) ?_
      exact hv

set_option maxHeartbeats 2000000 in
set_option maxRecDepth 20000 in
theorem g_X1_make_57 {G : GG} {j nw nx gn : Nat} {g : Nat → Sh} {c : Nat → Nat → Int} {post : Option AV → AM → Prop} {e : Nat} (he : e = 21 ∨ e = 35) {be : Nat → Nat} {le : Nat → Nat} {hd : Nat → Nat} {ls : Nat → Nat} {st : Nat → Int} {pr : Nat → Nat} {iv : Nat → Nat} {fa : Nat → Nat} {eb : Nat → Nat} {ml : Nat → Nat} {mf : Nat → Int} {rw : Nat → Nat} {dn : Nat → Nat} {r : Nat} {bd : Nat → Nat} (hTr : c 3 1 = ((r : Nat) : Int)) (hTb : ∀ i, i < 25 → c 4 i = ((bd i : Nat) : Int))  (hv : (r < 2147483648) ∧ (((r ≠ 0) → SW G (j + 4) mX1_make 66 [some (vr (e)), none, none] [] (S nw nx g, 78 + gn, (em c e be le hd ls st pr iv fa eb ml mf rw dn r 0 0)) B0 post) ∧ ((r = 0) → post (some (vi (1))) (S nw nx g, 78 + gn, (em c e be le hd ls st pr iv fa eb ml mf rw dn r 0 0))))) :
    SW G (j + 4) mX1_make 57 [some (vr (e)), none, none] [] (S nw nx g, 78 + gn, (em c e be le hd ls st pr iv fa eb ml mf rw dn r 0 0)) B0 post := by
  refine sw_aload_n (dX1_make.at 32 rfl) rfl rfl ?_
  refine sw_getIE (w := ((r : Nat) : Int)) (dX1_make.at 33 rfl) fp_X1_58 (S_e_lt he) (S_e he) rfl em_f13 ?_
  refine sw_ifN_ne r (tgt := 66) (dX1_make.at 34 rfl) (by decide) hv.1 (fun q => ?_) (fun q => ?_)
  · replace hv := hv.2.1 q
    exact hv
  · replace hv := hv.2.2 q
    refine sw_iconst (dX1_make.at 35 rfl) ?_
    exact sw_zret (dX1_make.at 36 rfl) rfl (by decide) (Nat.le_refl _) (Nat.le_refl _) hv

set_option maxHeartbeats 2000000 in
set_option maxRecDepth 20000 in
theorem g_X1_make_66b {G : GG} {j nw nx gn : Nat} {g : Nat → Sh} {c : Nat → Nat → Int} {post : Option AV → AM → Prop} {e : Nat} (he : e = 21 ∨ e = 35) {be : Nat → Nat} {le : Nat → Nat} {hd : Nat → Nat} {ls : Nat → Nat} {st : Nat → Int} {pr : Nat → Nat} {iv : Nat → Nat} {fa : Nat → Nat} {eb : Nat → Nat} {ml : Nat → Nat} {mf : Nat → Int} {rw : Nat → Nat} {dn : Nat → Nat} {r : Nat} {bo : Nat → Nat} (hrk : r ≤ 5) (hB : BAD r bo) (hbo : ∀ s t, s < r → t < r → s ≠ t → (2 ≤ be (s * 5 + t) ∧ be (s * 5 + t) ≤ 12) ∧ bo (5 * s + t) = be (s * 5 + t) ∧ bo (5 * t + s) = be (s * 5 + t))  (hv : (∀ (le_1 : Nat → Nat), ∀ (hd_1 : Nat → Nat), ∀ (ls_1 : Nat → Nat), ∀ (st_1 : Nat → Int), ∀ (mn_1 : Nat), post (some (vi (0))) (S nw nx g, 78 + gn, (em c e be le_1 hd_1 ls_1 st_1 pr iv fa eb ml mf rw dn r mn_1 0)))) :
    SW G (j + 4) mX1_make 66 [some (vr (e)), none, none] [] (S nw nx g, 78 + gn, (em c e be le hd ls st pr iv fa eb ml mf rw dn r 0 0)) B0 post := by
  refine sw_aload_n (dX1_make.at 37 rfl) rfl rfl ?_
  refine sw_callV (B' := B0) (As := []) (mc := 0) (ms := 0) (dX1_make.at 38 rfl) lk_X1_66 (S_e_lt he) (S_e he) rfl rfl (Nat.le_of_ble_eq_true rfl) rfl (Nat.le_refl _) (Nat.le_refl _) ?_
  refine c_X1_findAll_bad (j := j + 0) he hrk hB hbo (fun le_1 hd_1 ls_1 st_1 mn_1 => ?_) 
  · replace hv := hv le_1 hd_1 ls_1 st_1 mn_1
    refine sw_if_ne (tgt := 75) (dX1_make.at 39 rfl) (by decide) (by decide) (fun q => ?_) (fun q => ?_)
    · exact absurd q (by decide)
    · clear q
      refine sw_iconst (dX1_make.at 40 rfl) ?_
      exact sw_zret (dX1_make.at 41 rfl) rfl (by decide) (Nat.le_refl _) (Nat.le_refl _) hv

theorem lp_X1_make_20 {G : GG} {j nw nx gn : Nat} {g : Nat → Sh} {c : Nat → Nat → Int} {post : Option AV → AM → Prop} {e : Nat} {be : Nat → Nat} {le : Nat → Nat} {hd : Nat → Nat} {ls : Nat → Nat} {st : Nat → Int} {pr : Nat → Nat} {iv : Nat → Nat} {fa : Nat → Nat} {eb : Nat → Nat} {ml : Nat → Nat} {mf : Nat → Int} {rw : Nat → Nat} {dn : Nat → Nat} {rk : Nat} {mn : Nat} {mm : Nat} {r : Nat} {bd : Nat → Nat} (he : e = 21 ∨ e = 35) (hTr : c 3 1 = ((r : Nat) : Int)) (hTb : ∀ i, i < 25 → c 4 i = ((bd i : Nat) : Int)) (hbd : ∀ i, i < 25 → bd i < 100) (K : ∀ be : Nat → Nat, (∀ i, i < 25 → be i = if bd i = 0 then 2 else bd i) → SW G (j + 4) mX1_make 57 [some (vr (e)), none, none] [] (S nw nx g, 78 + gn, (em c e be le hd ls st pr iv fa eb ml mf rw dn r 0 0)) B0 post) : ∀ (t uu : Nat) (be : Nat → Nat), uu + t = 25 → (∀ i, i < uu → be i = if bd i = 0 then 2 else bd i) → SW G (j + 4) mX1_make 20 [some (vr (e)), some (vr (3)), some (vi (((uu : Nat) : Int)))] [] (S nw nx g, 78 + gn, (em c e be le hd ls st pr iv fa eb ml mf rw dn r 0 0)) B0 post := by
  intro t
  induction t with
  | zero =>
    intro uu be hu h
    refine g_X1_make_20 he hTr hTb ?_
    refine ⟨?_, ⟨fun q => ?_, fun q => ⟨?_, ⟨?_, ⟨fun q => ⟨?_, ⟨?_, ?_⟩⟩, fun q => ⟨?_, ?_⟩⟩⟩⟩⟩⟩
    all_goals first | omega | (exfalso; omega) | exact K be (fun i hi => h i (by omega))
  | succ t ih =>
    intro uu be hu h
    have hb := hbd uu (by omega)
    have nxt : ∀ v, (v = if bd uu = 0 then 2 else bd uu) → ∀ i, i < uu + 1 → uN be uu v i = if bd i = 0 then 2 else bd i := by
      intro v hv i hi
      by_cases e : i = uu
      · rw [e, uN, if_pos rfl, hv]
      · rw [uN, if_neg e]; exact h i (by omega)
    refine g_X1_make_20 he hTr hTb ?_
    refine ⟨?_, ⟨fun q => ?_, fun q => ⟨?_, ⟨?_, ⟨fun q => ⟨?_, ⟨?_, ?_⟩⟩, fun q => ⟨?_, ?_⟩⟩⟩⟩⟩⟩
    all_goals first | omega | (exfalso; omega) | exact ih _ _ (by omega) (nxt _ (by rw [if_pos (by omega)])) | exact ih _ _ (by omega) (nxt _ (by rw [if_neg (by omega)]))
theorem c_X1_make_none {G : GG} {j nw nx gn : Nat} {g : Nat → Sh} {c : Nat → Nat → Int} {post : Option AV → AM → Prop} {e : Nat} {be : Nat → Nat} {le : Nat → Nat} {hd : Nat → Nat} {ls : Nat → Nat} {st : Nat → Int} {pr : Nat → Nat} {iv : Nat → Nat} {fa : Nat → Nat} {eb : Nat → Nat} {ml : Nat → Nat} {mf : Nat → Int} {rw : Nat → Nat} {dn : Nat → Nat} {rk : Nat} {mn : Nat} {mm : Nat} {r : Nat} {bd : Nat → Nat} (he : e = 21 ∨ e = 35) (hTr : c 3 1 = ((r : Nat) : Int)) (hTb : ∀ i, i < 25 → c 4 i = ((bd i : Nat) : Int)) (hbd : ∀ i, i < 25 → bd i < 100) (hr : r = 0) (K : ∀ be : Nat → Nat, post (some (vi 1)) (S nw nx g, 78 + gn, (em c e be le hd ls st pr iv fa eb ml mf rw dn 0 0 0))) : SM G (j + 5) mX1_make [vr (e), vr (3)] (S nw nx g, 78 + gn, (em c e be le hd ls st pr iv fa eb ml mf rw dn rk mn mm)) 0 0 post := by
  refine sm_of wX1_make rfl (Nat.le_of_ble_eq_true rfl) ?_
  subst hr
  refine g_X1_make_0 he hTr hTb ?_
  refine lp_X1_make_20 (be := be) (rk := rk) (mn := mn) (mm := mm) he hTr hTb hbd (fun be2 _ => ?_) 25 0 be rfl (fun i hi => absurd hi (by omega))
  refine g_X1_make_57 he hTr hTb ?_
  refine ⟨?_, ⟨fun q => ?_, fun q => ?_⟩⟩
  all_goals first | omega | (exfalso; omega) | exact K _
theorem c_X1_make_bad {G : GG} {j nw nx gn : Nat} {g : Nat → Sh} {c : Nat → Nat → Int} {post : Option AV → AM → Prop} {e : Nat} {be : Nat → Nat} {le : Nat → Nat} {hd : Nat → Nat} {ls : Nat → Nat} {st : Nat → Int} {pr : Nat → Nat} {iv : Nat → Nat} {fa : Nat → Nat} {eb : Nat → Nat} {ml : Nat → Nat} {mf : Nat → Int} {rw : Nat → Nat} {dn : Nat → Nat} {rk : Nat} {mn : Nat} {mm : Nat} {r : Nat} {bd : Nat → Nat} {bo : Nat → Nat} (he : e = 21 ∨ e = 35) (hTr : c 3 1 = ((r : Nat) : Int)) (hTb : ∀ i, i < 25 → c 4 i = ((bd i : Nat) : Int)) (hbd : ∀ i, i < 25 → bd i < 100) (hr : 0 < r) (hrk : r ≤ 5) (hB : BAD r bo) (hbo : ∀ s t, s < r → t < r → s ≠ t → (2 ≤ (if bd (s * 5 + t) = 0 then 2 else bd (s * 5 + t)) ∧ (if bd (s * 5 + t) = 0 then 2 else bd (s * 5 + t)) ≤ 12) ∧ bo (5 * s + t) = (if bd (s * 5 + t) = 0 then 2 else bd (s * 5 + t)) ∧ bo (5 * t + s) = (if bd (s * 5 + t) = 0 then 2 else bd (s * 5 + t))) (K : ∀ (be le hd ls : Nat → Nat) (st : Nat → Int) (mn : Nat), post (some (vi 0)) (S nw nx g, 78 + gn, (em c e be le hd ls st pr iv fa eb ml mf rw dn r mn 0))) : SM G (j + 5) mX1_make [vr (e), vr (3)] (S nw nx g, 78 + gn, (em c e be le hd ls st pr iv fa eb ml mf rw dn rk mn mm)) 0 0 post := by
  refine sm_of wX1_make rfl (Nat.le_of_ble_eq_true rfl) ?_
  refine g_X1_make_0 he hTr hTb ?_
  refine lp_X1_make_20 (be := be) (rk := rk) (mn := mn) (mm := mm) he hTr hTb hbd (fun be2 hbe => ?_) 25 0 be rfl (fun i hi => absurd hi (by omega))
  have hbo2 : ∀ s t, s < r → t < r → s ≠ t → (2 ≤ be2 (s * 5 + t) ∧ be2 (s * 5 + t) ≤ 12) ∧ bo (5 * s + t) = be2 (s * 5 + t) ∧ bo (5 * t + s) = be2 (s * 5 + t) := fun s t a b d => by rw [hbe (s * 5 + t) (by omega)]; exact hbo s t a b d
  refine g_X1_make_57 he hTr hTb ?_
  refine ⟨?_, ⟨fun q => ?_, fun q => ?_⟩⟩
  all_goals first | omega | (exfalso; omega) | skip
  refine g_X1_make_66b he hrk hB hbo2 ?_
  refine fun le_1 => fun hd_1 => fun ls_1 => fun st_1 => fun mn_1 => ?_
  all_goals exact K _ _ _ _ _ _
set_option maxHeartbeats 8000000 in
theorem c_X1_make_good {G : GG} {j nw nx gn : Nat} {g : Nat → Sh} {c : Nat → Nat → Int} {post : Option AV → AM → Prop} {e : Nat} {P : GD} {be : Nat → Nat} {le : Nat → Nat} {hd : Nat → Nat} {ls : Nat → Nat} {st : Nat → Int} {pr : Nat → Nat} {iv : Nat → Nat} {fa : Nat → Nat} {eb : Nat → Nat} {ml : Nat → Nat} {mf : Nat → Int} {rw : Nat → Nat} {dn : Nat → Nat} {rk : Nat} {mn : Nat} {mm : Nat} {r : Nat} {bd : Nat → Nat} (he : e = 21 ∨ e = 35) (hTr : c 3 1 = ((r : Nat) : Int)) (hTb : ∀ i, i < 25 → c 4 i = ((bd i : Nat) : Int)) (hbd : ∀ i, i < 25 → bd i < 100) (hr : r = gR P) (hV : GV P) (hC : GC P) (hO : FO P) (hK : FK1 P) (hP : FQ P) (hB : FB P) (h0 : 0 < gN P) (hbg : ∀ s t, s < gR P → t < gR P → t ≠ s → (if bd (s * 5 + t) = 0 then 2 else bd (s * 5 + t)) = gB P s t ∧ 2 ≤ gB P s t) (K : ∀ (be : Nat → Nat) (le : Nat → Nat) (hd : Nat → Nat) (ls : Nat → Nat) (st : Nat → Int) (pr : Nat → Nat) (iv : Nat → Nat) (fa : Nat → Nat) (eb : Nat → Nat) (ml : Nat → Nat) (mf : Nat → Int) (rw : Nat → Nat) (dn : Nat → Nat), EL (em c e be le hd ls st pr iv fa eb ml mf rw dn (gR P) (gN P) (gM P)) e P → post (some (vi 1)) (S nw nx g, 78 + gn, (em c e be le hd ls st pr iv fa eb ml mf rw dn (gR P) (gN P) (gM P)))) : SM G (j + 5) mX1_make [vr (e), vr (3)] (S nw nx g, 78 + gn, (em c e be le hd ls st pr iv fa eb ml mf rw dn rk mn mm)) 0 0 post := by
  refine sm_of wX1_make rfl (Nat.le_of_ble_eq_true rfl) ?_
  subst hr
  have hRp : 0 < gR P := by
    have := hV.1.2.2.2
    rcases Nat.eq_zero_or_pos (gR P) with q | q
    · rw [this.mpr q] at h0; omega
    · exact q
  have hR5 := GV_R hV
  refine g_X1_make_0 he hTr hTb ?_
  refine lp_X1_make_20 (be := be) (rk := rk) (mn := mn) (mm := mm) he hTr hTb hbd (fun be2 hbe => ?_) 25 0 be rfl (fun i hi => absurd hi (by omega))
  have h1 : ∀ s t, s < gR P → t < gR P → t ≠ s → be2 (s * 5 + t) = gB P s t := fun s t a b d => by rw [hbe (s * 5 + t) (by omega)]; exact (hbg s t a b d).1
  have h2 : ∀ s t, s < gR P → t < gR P → s ≠ t → 2 ≤ be2 (s * 5 + t) ∧ be2 (s * 5 + t) ≤ 12 := fun s t a b d => by rw [h1 s t a b (Ne.symm d)]; exact ⟨(hbg s t a b (Ne.symm d)).2, hV.2.1 s t a b⟩
  refine g_X1_make_57 he hTr hTb ?_
  refine ⟨?_, ⟨fun q => ?_, fun q => ?_⟩⟩
  all_goals first | omega | (exfalso; omega) | skip
  refine g_X1_make_66g he hV hC hO hK hP hB h0 h1 h2 ?_
  refine fun le_1 => fun hd_1 => fun ls_1 => fun st_1 => fun q => ?_
  have hle : ∀ x, x < gN P → le_1 x = gL P x := fun x a => (q.1 x a).1
  have hhd : ∀ x, x < gN P → hd_1 x = gH P x := fun x a => (q.1 x a).2.1
  have hls : ∀ x, x < gN P → ls_1 x = gA P x := fun x a => (q.1 x a).2.2
  have hst := q.2
  refine g_X1_make_75 he hle hhd hls hst hV hC hP h0 ?_
  refine fun pr_1 => fun iv_1 => fun q => ?_
  have hpr := q.1
  have hiv := q.2
  refine g_X1_make_79 he hle hhd hls hst hV hC hpr hiv hP ?_
  refine fun fa_1 => fun eb_1 => fun q => ?_
  have hfa := q
  have heb : ∀ x, x < gN P → eb_1 x = gE P x := fun x a => (q x a).2
  refine g_X1_make_83 he hle hhd hls hst hV hC hpr hiv heb hP hO h0 ?_
  refine fun rw_1 => fun q => ?_
  have hrw := q
  refine g_X1_make_87 he hle hhd hls hst hV hC hP h0 ?_
  refine fun dn_1 => fun q => ?_
  have hdn := q
  refine g_X1_make_91 he hle hhd hls hst hV hC hpr hiv hB ?_
  refine fun ml_1 => fun q => ?_
  have hml := q
  refine g_X1_make_95 he hle hhd hls hst hV hC hpr hiv hml hP ?_
  refine fun mf_1 => fun q => ?_
  have hmf := q
  refine K _ _ _ _ _ _ _ _ _ _ _ _ _ ⟨⟨em_f13, em_f14, em_f15⟩, fun s t a b d => ?_, fun x hx => ⟨?_, ?_, ?_, ?_, ?_, ?_, ?_, ?_, ?_⟩, fun x s a b => ?_, fun x y a b => ?_, fun i a => ?_⟩
  · rw [em_r1, h1 s t a b (Ne.symm d)]
  · rw [em_r2, hle x hx]
  · rw [em_r3, hhd x hx]
  · rw [em_r4, hls x hx]
  · rw [em_r7, hiv x hx]
  · rw [em_r8, (hfa x hx).1]
  · rw [em_r9, heb x hx]
  · rw [em_r11, hmf x hx]
  · rw [em_r12, hrw x hx]
  · rw [em_r13, hdn x hx]
  · rw [em_r5, hst x s a b]
  · rw [em_r6, hpr x y a b]
  · rw [em_r10, hml i a]

