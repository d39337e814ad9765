def clOk (ci : Nat) (C : String) (T : u_T) (N : Nat) (ty : Nat → FieldType) : Prop :=
  mCl[ci]? = some (C, T, N) ∧ (∀ w ∈ u_ws C T N, inT w) ∧ (∀ k, k < N → parseFieldDescriptor (T k).2.2.1 = some (ty k)) ∧ (∀ a, a < N → ∀ b, b < N → a ≠ b → (T a).2.1 ≠ (T b).2.1) ∧ fN ci = N ∧ ci < 8 ∧ (∀ k, k < N → defaultValue (ty k) = if fTy ci k = 2 then .null else .int 0)

theorem cl0 : clOk 0 RX0 TX0 2 tyX0 := ⟨rfl, lz0, tyX0_ok, nmX0, by decide, by decide, by decide +kernel⟩
theorem cl1 : clOk 1 RX1 TX1 6 tyX1 := ⟨rfl, lz1, tyX1_ok, nmX1, by decide, by decide, by decide +kernel⟩
theorem cl2 : clOk 2 RX2 TX2 4 tyX2 := ⟨rfl, lz2, tyX2_ok, nmX2, by decide, by decide, by decide +kernel⟩
theorem cl3 : clOk 3 RX3 TX3 5 tyX3 := ⟨rfl, lz3, tyX3_ok, nmX3, by decide, by decide, by decide +kernel⟩
theorem cl4 : clOk 4 RX4 TX4 7 tyX4 := ⟨rfl, lz4, tyX4_ok, nmX4, by decide, by decide, by decide +kernel⟩
theorem cl5 : clOk 5 RX5 TX5 13 tyX5 := ⟨rfl, lz5, tyX5_ok, nmX5, by decide, by decide, by decide +kernel⟩
theorem cl6 : clOk 6 RX6 TX6 11 tyX6 := ⟨rfl, lz6, tyX6_ok, nmX6, by decide, by decide, by decide +kernel⟩
theorem cl7 : clOk 7 RX7 TX7 27 tyX7 := ⟨rfl, lz7, tyX7_ok, nmX7, by decide, by decide, by decide +kernel⟩
theorem ent_obj {g : GP} {f : Nat → Int32} {ci ln : Nat} {rs : List (Option Nat)} (h : ci < 8) : ent g f (ci, ln, rs) = .inr (ci, (List.range (fN ci)).map (fVal (g_b g) ci f rs)) := by
  unfold ent
  rw [if_neg (by show ¬ ci = 8; omega), if_neg (by show ¬ ci = 9; omega), if_neg (by show ¬ ci = 10; omega)]
theorem ent_8 {g : GP} {f : Nat → Int32} {ln : Nat} {rs : List (Option Nat)} : ent g f (8, ln, rs) = .inl (g.2.2.1, ln, .inl f) := rfl
theorem ent_9 {g : GP} {f : Nat → Int32} {ln : Nat} {rs : List (Option Nat)} : ent g f (9, ln, rs) = .inl (g.2.2.2.1, ln, .inl f) := rfl
theorem ent_10 {g : GP} {f : Nat → Int32} {ln : Nat} {rs : List (Option Nat)} : ent g f (10, ln, rs) = .inl (g.2.2.2.2.1, ln, .inr (.inr (.inr (.inr (fun j => srf (g_b g) (rs.getD j none)))))) := rfl
theorem fs_at {b ci k N : Nat} {f : Nat → Int32} {rs : List (Option Nat)} (hN : fN ci = N) (hk : k < N) : ((List.range (fN ci)).map (fVal b ci f rs))[k]? = some (fVal b ci f rs k) := by
  rw [List.getElem?_map, List.getElem?_range (by rw [hN]; exact hk)]
  rfl
theorem fs_setI {b ci k : Nat} {f : Nat → Int32} {rs : List (Option Nat)} {x : Int32} (ht : fTy ci k ≠ 2) : ((List.range (fN ci)).map (fVal b ci f rs)).set k (.int x) = (List.range (fN ci)).map (fVal b ci (upd f k x) rs) := by
  apply List.ext_getElem?
  intro j
  by_cases hj : j < fN ci
  · by_cases hk : j = k
    · subst hk
      rw [List.getElem?_set_self (by simpa using hj), List.getElem?_map, List.getElem?_range hj]
      simp [fVal, ht, upd]
    · rw [List.getElem?_set_ne (Ne.symm hk), List.getElem?_map, List.getElem?_map, List.getElem?_range hj]
      simp [fVal, upd, hk]
  · rw [List.getElem?_eq_none_iff.mpr (by simpa using hj), List.getElem?_eq_none_iff.mpr (by simpa using hj)]
theorem fs_setR {b ci k r : Nat} {f : Nat → Int32} {rs : List (Option Nat)} (ht : fTy ci k = 2) (hl : k < rs.length) : ((List.range (fN ci)).map (fVal b ci f rs)).set k (.ref (b + r)) = (List.range (fN ci)).map (fVal b ci f (rs.set k (some r))) := by
  apply List.ext_getElem?
  intro j
  by_cases hj : j < fN ci
  · by_cases hk : j = k
    · subst hk
      rw [List.getElem?_set_self (by simpa using hj), List.getElem?_map, List.getElem?_range hj]
      simp [fVal, ht, List.getD_eq_getElem?_getD, List.getElem?_set_self hl, srf, va_rf]
    · rw [List.getElem?_set_ne (Ne.symm hk), List.getElem?_map, List.getElem?_map, List.getElem?_range hj]
      simp [fVal, List.getD_eq_getElem?_getD, List.getElem?_set_ne (Ne.symm hk)]
  · rw [List.getElem?_eq_none_iff.mpr (by simpa using hj), List.getElem?_eq_none_iff.mpr (by simpa using hj)]
section ZH
variable {g : GP} {d mc ms : Nat} {M : MI} {pc : Nat} {L st : List Value} {I : IM} {S : SH} {Q : ZQ}
theorem Z.getI {idx ci k a ln N : Nat} {rs : List (Option Nat)} {C : String} {T : u_T} {ty : Nat → FieldType} (hd : decode M.2.1 pc = .ok (.getfield idx, 3)) (hc : clOk ci C T N ty) (hf : inT (.fieldLink M.1.cls idx (T k).1 (T k).2.1 (T k).2.2.1)) (hk : k < N ∧ fTy ci k ≠ 2) (hs : S[a]? = some (ci, ln, rs))
    (kk : Z g d mc ms M (pc + 3) L (.int (I a k) :: st) I S Q) : Z g d mc ms M pc L (.ref a :: st) I S Q := by
  intro l p e R s m args below meth c H locs cells slots mcF msF ls Qc hC hD hQ
  have hC0 := hC
  have hD0 := hD
  obtain ⟨hx, hb, hr, hlk, hml, ho, hnm, ht, hK, hfr, hlo, hbs⟩ := hC
  obtain ⟨⟨hP, hsz⟩, hS, hL, hcc, hss, hcr, hsr⟩ := hD
  have hts : ∀ w ∈ lw_tbl.filter goodWord, w.before args s = true := fun w hw => ht w (List.mem_filter.mp hw)
  refine va_get (Ts := lw_tbl.filter goodWord) (ci := ci) (v := .int (I a k)) hx hb hts (fun w hw => List.mem_filter.mpr (hc.2.1 w hw)) ho hK.1 hP a ((wl_at hs).trans (by rw [ent_obj hc.2.2.2.2.2.1])) hc.1 k hk.1 (ht _ hf) (fun _ h => h) ((fs_at hc.2.2.2.2.1 hk.1).trans (by simp [fVal, hk.2])) hd ?_
  exact kk l p e R s m args below meth c H locs cells slots mcF msF ls Qc hC0 hD0 hQ
theorem Z.getIN {k a ln : Nat} {rs : List (Option Nat)} (hM : M.1.cls = RX6) (hd : decode M.2.1 pc = .ok (.getfield 247, 3)) (hk : k = 3) (hs : S[a]? = some (2, ln, rs))
    (kk : Z g d mc ms M (pc + 3) L (.int (I a k) :: st) I S Q) : Z g d mc ms M pc L (.ref a :: st) I S Q := by
  subst hk
  intro l p e R s m args below meth c H locs cells slots mcF msF ls Qc hC hD hQ
  have hC0 := hC
  have hD0 := hD
  obtain ⟨hx, hb, hr, hlk, hml, ho, hnm, ht, hK, hfr, hlo, hbs⟩ := hC
  obtain ⟨⟨hP, hsz⟩, hS, hL, hcc, hss, hcr, hsr⟩ := hD
  have hts : ∀ w ∈ lw_tbl.filter goodWord, w.before args s = true := fun w hw => ht w (List.mem_filter.mp hw)
  refine va_getN (Ts := lw_tbl.filter goodWord) (ci := 2) (v := .int (I a 3)) (own := RX6) (host := RX6) hx hb hts (fun w hw => List.mem_filter.mpr (cl2.2.1 w hw)) (hM ▸ ho) hK.1 hP a ((wl_at hs).trans (by rw [ent_obj (by decide)])) cl2.1 3 (by decide) (va_Nw.use rfl hK.2.2.1) (fun _ h => h) ((fs_at cl2.2.2.2.2.1 (by decide)).trans (by simp [fVal, show fTy 2 3 ≠ 2 by decide])) hd ?_
  exact kk l p e R s m args below meth c H locs cells slots mcF msF ls Qc hC0 hD0 hQ
theorem Z.getR {idx ci k a ln N r : Nat} {rs : List (Option Nat)} {C : String} {T : u_T} {ty : Nat → FieldType} (hd : decode M.2.1 pc = .ok (.getfield idx, 3)) (hc : clOk ci C T N ty) (hf : inT (.fieldLink M.1.cls idx (T k).1 (T k).2.1 (T k).2.2.1)) (hk : k < N ∧ fTy ci k = 2) (hs : S[a]? = some (ci, ln, rs)) (hr : rs[k]? = some (some r))
    (kk : Z g d mc ms M (pc + 3) L (.ref r :: st) I S Q) : Z g d mc ms M pc L (.ref a :: st) I S Q := by
  have hrr := hr
  intro l p e R s m args below meth c H locs cells slots mcF msF ls Qc hC hD hQ
  have hC0 := hC
  have hD0 := hD
  obtain ⟨hx, hb, hr, hlk, hml, ho, hnm, ht, hK, hfr, hlo, hbs⟩ := hC
  obtain ⟨⟨hP, hsz⟩, hS, hL, hcc, hss, hcr, hsr⟩ := hD
  have hts : ∀ w ∈ lw_tbl.filter goodWord, w.before args s = true := fun w hw => ht w (List.mem_filter.mp hw)
  refine va_get (Ts := lw_tbl.filter goodWord) (ci := ci) (v := .ref (g_b g + r)) hx hb hts (fun w hw => List.mem_filter.mpr (hc.2.1 w hw)) ho hK.1 hP a ((wl_at hs).trans (by rw [ent_obj hc.2.2.2.2.2.1])) hc.1 k hk.1 (ht _ hf) (fun _ h => h) ((fs_at hc.2.2.2.2.1 hk.1).trans (by simp [fVal, hk.2, List.getD_eq_getElem?_getD, hrr, srf, va_rf])) hd ?_
  exact kk l p e R s m args below meth c H locs cells slots mcF msF ls Qc hC0 hD0 hQ

theorem Z.putI {idx ci k a ln N : Nat} {rs : List (Option Nat)} {C : String} {T : u_T} {ty : Nat → FieldType} {x : Int32} (hd : decode M.2.1 pc = .ok (.putfield idx, 3)) (hc : clOk ci C T N ty) (hf : inT (.fieldLink M.1.cls idx (T k).1 (T k).2.1 (T k).2.2.1)) (hk : k < N ∧ fTy ci k ≠ 2 ∧ (T k).2.2.2 = false) (hv : narrow (ty k) (.int x) = .int x ∧ fits (ty k) (.int x) = true) (hs : S[a]? = some (ci, ln, rs))
    (kk : Z g d mc ms M (pc + 3) L st (va_up I a (upd (I a) k x)) S Q) : Z g d mc ms M pc L (.int x :: .ref a :: st) I S Q := by
  intro l p e R s m args below meth c H locs cells slots mcF msF ls Qc hC hD hQ
  have hC0 := hC
  have hD0 := hD
  obtain ⟨hx, hb, hr, hlk, hml, ho, hnm, ht, hK, hfr, hlo, hbs⟩ := hC
  obtain ⟨⟨hP, hsz⟩, hS, hL, hcc, hss, hcr, hsr⟩ := hD
  have hts : ∀ w ∈ lw_tbl.filter goodWord, w.before args s = true := fun w hw => ht w (List.mem_filter.mp hw)
  have hin : ∀ w ∈ u_ws C T N, w ∈ lw_tbl.filter goodWord := fun w hw => List.mem_filter.mpr (hc.2.1 w hw)
  have hap := va_apart (own := M.1.cls) hts hin ty hc.2.2.1 hc.2.2.2.1 hK.1 hc.1
  have he : (wl g I S)[a]? = some (g_b g + a, .inr (ci, (List.range (fN ci)).map (fVal (g_b g) ci (I a) rs))) := (wl_at hs).trans (by rw [ent_obj hc.2.2.2.2.2.1])
  have hl : k < ((List.range (fN ci)).map (fVal (g_b g) ci (I a) rs)).length := by rw [List.length_map, List.length_range, hc.2.2.2.2.1]; exact hk.1
  obtain ⟨r, h1, cell, q1, q2, q3, q4⟩ := hP a _ he
  have hr' : r = (C, T, N) := Option.some.inj (h1.symm.trans hc.1)
  subst hr'
  obtain ⟨hSl, hfc, kC, hkC, hkind⟩ := hK.1.1 ci _ hc.1
  obtain ⟨cf, kf, fi, f, hi, hsl⟩ := hSl k hk.1
  have hlay := ht _ (hc.2.1 _ (u_in_lay hk.1))
  unfold u_lay at hlay
  rw [if_neg (by rw [hk.2.2]; decide)] at hlay
  have hst := (u_facts hfc hkC (u_lays hts hin hk.1) hi).1
  have h6 := u_store hfc hkC hkind hlay hi (hc.2.2.1 k hk.1) hv.1 hv.2
  refine W.putK hx hb (f := f) ⟨ho, ht _ hf, ⟨_, _, _, hi⟩, hst⟩ (by rw [q2]; exact h6) q1 q3 (by rw [hsl]; exact k2_hasslot (q4 k hk.1)) rfl rfl hd fun H' e1 e2 e3 => ?_
  rw [hsl] at e1 ⊢
  have hP' := hP.set wl_D he (e := .inr (ci, ((List.range (fN ci)).map (fVal (g_b g) ci (I a) rs)).set k (.int x))) ⟨_, hc.1, t_OB.to (V := updV (vp_V ((List.range (fN ci)).map (fVal (g_b g) ci (I a) rs))) k (.int x)) ⟨_, e1, q2, q3, t_set q4 hap hk.1 _⟩ (fun j _ => vp_updV_set hl _ j)⟩ e3
  rw [fs_setI hk.2.1, ← ent_obj (g := g) (ln := ln) hc.2.2.2.2.2.1, wl_setI hs] at hP'
  exact kk l p e R s m args below meth c H' _ cells slots mcF msF ls Qc hC0 ⟨⟨hP', e2.trans hsz⟩, hS.put e2 e3 (Nat.le_add_right _ _), hL, hcc, hss, hcr, hsr⟩ hQ

theorem Z.putFI {idx ci k a ln N : Nat} {rs : List (Option Nat)} {C : String} {T : u_T} {ty : Nat → FieldType} {x : Int32} (hd : decode M.2.1 pc = .ok (.putfield idx, 3)) (hc : clOk ci C T N ty) (hf : inT (.fieldLink M.1.cls idx (T k).1 (T k).2.1 (T k).2.2.1)) (hk : k < N ∧ fTy ci k ≠ 2 ∧ (T k).2.2.2 = true) (hv : narrow (ty k) (.int x) = .int x ∧ fits (ty k) (.int x) = true) (hdecl : (T k).1 = M.1.cls ∧ M.1.name = "<init>") (hs : S[a]? = some (ci, ln, rs))
    (kk : Z g d mc ms M (pc + 3) L st (va_up I a (upd (I a) k x)) S Q) : Z g d mc ms M pc L (.int x :: .ref a :: st) I S Q := by
  intro l p e R s m args below meth c H locs cells slots mcF msF ls Qc hC hD hQ
  have hC0 := hC
  have hD0 := hD
  obtain ⟨hx, hb, hr, hlk, hml, ho, hnm, ht, hK, hfr, hlo, hbs⟩ := hC
  obtain ⟨⟨hP, hsz⟩, hS, hL, hcc, hss, hcr, hsr⟩ := hD
  have hts : ∀ w ∈ lw_tbl.filter goodWord, w.before args s = true := fun w hw => ht w (List.mem_filter.mp hw)
  have hin : ∀ w ∈ u_ws C T N, w ∈ lw_tbl.filter goodWord := fun w hw => List.mem_filter.mpr (hc.2.1 w hw)
  have hap := va_apart (own := M.1.cls) hts hin ty hc.2.2.1 hc.2.2.2.1 hK.1 hc.1
  have he : (wl g I S)[a]? = some (g_b g + a, .inr (ci, (List.range (fN ci)).map (fVal (g_b g) ci (I a) rs))) := (wl_at hs).trans (by rw [ent_obj hc.2.2.2.2.2.1])
  have hl : k < ((List.range (fN ci)).map (fVal (g_b g) ci (I a) rs)).length := by rw [List.length_map, List.length_range, hc.2.2.2.2.1]; exact hk.1
  obtain ⟨r, h1, cell, q1, q2, q3, q4⟩ := hP a _ he
  have hr' : r = (C, T, N) := Option.some.inj (h1.symm.trans hc.1)
  subst hr'
  obtain ⟨hSl, hfc, kC, hkC, hkind⟩ := hK.1.1 ci _ hc.1
  obtain ⟨cf, kf, fi, f, hi, hsl⟩ := hSl k hk.1
  have hlay := ht _ (hc.2.1 _ (u_in_lay hk.1))
  unfold u_lay at hlay
  rw [if_pos hk.2.2] at hlay
  have hst := (u_facts hfc hkC (u_lays hts hin hk.1) hi).1
  have hcf : m.cls = cf := by
    obtain ⟨_, _, c', _, _, _, -, -, hf', -, -, -, hown2, -⟩ := Cond.laysFinal_spec hlay
    have e1 : c' = cf := by have := hi.symm.trans hf'; simp at this; exact this.1.symm
    rw [hdecl.1] at hown2
    rw [← e1]; exact Option.some.inj (ho.symm.trans hown2)
  have h6 := u_fits hfc hkC hkind (Or.inr hlay) hi (hc.2.2.1 k hk.1) hv.1 hv.2
  refine W.putFinK hx hb ho (ht _ hf) hi hst hcf (hnm.trans hdecl.2) (by rw [q2]; exact h6) q1 q3 (by rw [hsl]; exact k2_hasslot (q4 k hk.1)) rfl rfl hd fun H' e1 e2 e3 => ?_
  rw [hsl] at e1 ⊢
  have hP' := hP.set wl_D he (e := .inr (ci, ((List.range (fN ci)).map (fVal (g_b g) ci (I a) rs)).set k (.int x))) ⟨_, hc.1, t_OB.to (V := updV (vp_V ((List.range (fN ci)).map (fVal (g_b g) ci (I a) rs))) k (.int x)) ⟨_, e1, q2, q3, t_set q4 hap hk.1 _⟩ (fun j _ => vp_updV_set hl _ j)⟩ e3
  rw [fs_setI hk.2.1, ← ent_obj (g := g) (ln := ln) hc.2.2.2.2.2.1, wl_setI hs] at hP'
  exact kk l p e R s m args below meth c H' _ cells slots mcF msF ls Qc hC0 ⟨⟨hP', e2.trans hsz⟩, hS.put e2 e3 (Nat.le_add_right _ _), hL, hcc, hss, hcr, hsr⟩ hQ

theorem Z.putFR {idx ci k a ln N r : Nat} {rs : List (Option Nat)} {C : String} {T : u_T} {ty : Nat → FieldType} (hd : decode M.2.1 pc = .ok (.putfield idx, 3)) (hc : clOk ci C T N ty) (hf : inT (.fieldLink M.1.cls idx (T k).1 (T k).2.1 (T k).2.2.1)) (hk : k < N ∧ fTy ci k = 2 ∧ (T k).2.2.2 = true) (hv : ∀ r, narrow (ty k) (.ref r) = .ref r ∧ fits (ty k) (.ref r) = true) (hdecl : (T k).1 = M.1.cls ∧ M.1.name = "<init>") (hs : S[a]? = some (ci, ln, rs)) (hlr : k < rs.length)
    (kk : Z g d mc ms M (pc + 3) L st I (S.set a (ci, ln, rs.set k (some r))) Q) : Z g d mc ms M pc L (.ref r :: .ref a :: st) I S Q := by
  have hv := hv (g_b g + r)
  intro l p e R s m args below meth c H locs cells slots mcF msF ls Qc hC hD hQ
  have hC0 := hC
  have hD0 := hD
  obtain ⟨hx, hb, hr, hlk, hml, ho, hnm, ht, hK, hfr, hlo, hbs⟩ := hC
  obtain ⟨⟨hP, hsz⟩, hS, hL, hcc, hss, hcr, hsr⟩ := hD
  have hts : ∀ w ∈ lw_tbl.filter goodWord, w.before args s = true := fun w hw => ht w (List.mem_filter.mp hw)
  have hin : ∀ w ∈ u_ws C T N, w ∈ lw_tbl.filter goodWord := fun w hw => List.mem_filter.mpr (hc.2.1 w hw)
  have hap := va_apart (own := M.1.cls) hts hin ty hc.2.2.1 hc.2.2.2.1 hK.1 hc.1
  have he : (wl g I S)[a]? = some (g_b g + a, .inr (ci, (List.range (fN ci)).map (fVal (g_b g) ci (I a) rs))) := (wl_at hs).trans (by rw [ent_obj hc.2.2.2.2.2.1])
  have hl : k < ((List.range (fN ci)).map (fVal (g_b g) ci (I a) rs)).length := by rw [List.length_map, List.length_range, hc.2.2.2.2.1]; exact hk.1
  obtain ⟨r9, h1, cell, q1, q2, q3, q4⟩ := hP a _ he
  have hr' : r9 = (C, T, N) := Option.some.inj (h1.symm.trans hc.1)
  subst hr'
  obtain ⟨hSl, hfc, kC, hkC, hkind⟩ := hK.1.1 ci _ hc.1
  obtain ⟨cf, kf, fi, f, hi, hsl⟩ := hSl k hk.1
  have hlay := ht _ (hc.2.1 _ (u_in_lay hk.1))
  unfold u_lay at hlay
  rw [if_pos hk.2.2] at hlay
  have hst := (u_facts hfc hkC (u_lays hts hin hk.1) hi).1
  have hcf : m.cls = cf := by
    obtain ⟨_, _, c', _, _, _, -, -, hf', -, -, -, hown2, -⟩ := Cond.laysFinal_spec hlay
    have e1 : c' = cf := by have := hi.symm.trans hf'; simp at this; exact this.1.symm
    rw [hdecl.1] at hown2
    rw [← e1]; exact Option.some.inj (ho.symm.trans hown2)
  have h6 := u_fits hfc hkC hkind (Or.inr hlay) hi (hc.2.2.1 k hk.1) hv.1 hv.2
  refine W.putFinK hx hb ho (ht _ hf) hi hst hcf (hnm.trans hdecl.2) (by rw [q2]; exact h6) q1 q3 (by rw [hsl]; exact k2_hasslot (q4 k hk.1)) rfl rfl hd fun H' e1 e2 e3 => ?_
  rw [hsl] at e1 ⊢
  have hP' := hP.set wl_D he (e := .inr (ci, ((List.range (fN ci)).map (fVal (g_b g) ci (I a) rs)).set k (.ref (g_b g + r)))) ⟨_, hc.1, t_OB.to (V := updV (vp_V ((List.range (fN ci)).map (fVal (g_b g) ci (I a) rs))) k (.ref (g_b g + r))) ⟨_, e1, q2, q3, t_set q4 hap hk.1 _⟩ (fun j _ => vp_updV_set hl _ j)⟩ e3
  rw [fs_setR hk.2.1 hlr, ← ent_obj (g := g) (ln := ln) hc.2.2.2.2.2.1, wl_setS hs] at hP'
  exact kk l p e R s m args below meth c H' _ cells slots mcF msF ls Qc hC0 ⟨⟨hP', (e2.trans hsz).trans (by rw [List.length_set])⟩, hS.put e2 e3 (Nat.le_add_right _ _), hL, hcc, hss, hcr, hsr⟩ hQ

theorem in_nI {i : Int32} {j n : Nat} (hi : i = nI j) (hj : j < n) (hn : n < 2 ^ 31) : vp_in i n ∧ i.toNatClampNeg = j := by
  subst hi
  exact ⟨vp_in_nI hj hn, nI_clamp (Nat.lt_trans hj hn)⟩
theorem Z.iald {a j n : Nat} {rs : List (Option Nat)} {i : Int32} (hd : decode M.2.1 pc = .ok (.iaload, 1)) (hs : S[a]? = some (8, n, rs)) (hi : i = nI j) (hj : j < n) (hn : n < 2 ^ 31)
    (kk : Z g d mc ms M (pc + 1) L (.int (I a j) :: st) I S Q) : Z g d mc ms M pc L (.int i :: .ref a :: st) I S Q := by
  obtain ⟨h1, h2⟩ := in_nI hi hj hn
  intro l p e R s m args below meth c H locs cells slots mcF msF ls Qc hC hD hQ
  have hC0 := hC
  have hD0 := hD
  obtain ⟨hx, hb, hr, hlk, hml, ho, hnm, ht, hK, hfr, hlo, hbs⟩ := hC
  obtain ⟨⟨hP, hsz⟩, hS, hL, hcc, hss, hcr, hsr⟩ := hD
  have hts : ∀ w ∈ lw_tbl.filter goodWord, w.before args s = true := fun w hw => ht w (List.mem_filter.mp hw)
  refine va_iald hx hb hK.1 hP a 0 (wl_at hs) rfl h1 hd ?_
  rw [h2]
  exact kk l p e R s m args below meth c H locs cells slots mcF msF ls Qc hC0 hD0 hQ
theorem Z.zald {a j n : Nat} {rs : List (Option Nat)} {i : Int32} (hd : decode M.2.1 pc = .ok (.baload, 1)) (hs : S[a]? = some (9, n, rs)) (hi : i = nI j) (hj : j < n) (hn : n < 2 ^ 31)
    (kk : Z g d mc ms M (pc + 1) L (.int (I a j) :: st) I S Q) : Z g d mc ms M pc L (.int i :: .ref a :: st) I S Q := by
  obtain ⟨h1, h2⟩ := in_nI hi hj hn
  intro l p e R s m args below meth c H locs cells slots mcF msF ls Qc hC hD hQ
  have hC0 := hC
  have hD0 := hD
  obtain ⟨hx, hb, hr, hlk, hml, ho, hnm, ht, hK, hfr, hlo, hbs⟩ := hC
  obtain ⟨⟨hP, hsz⟩, hS, hL, hcc, hss, hcr, hsr⟩ := hD
  have hts : ∀ w ∈ lw_tbl.filter goodWord, w.before args s = true := fun w hw => ht w (List.mem_filter.mp hw)
  refine va_zald hx hb hK.1 hP a 1 (wl_at hs) rfl h1 hd ?_
  rw [h2]
  exact kk l p e R s m args below meth c H locs cells slots mcF msF ls Qc hC0 hD0 hQ
theorem Z.aald {a j n r : Nat} {rs : List (Option Nat)} {i : Int32} (hd : decode M.2.1 pc = .ok (.aaload, 1)) (hs : S[a]? = some (10, n, rs)) (hi : i = nI j) (hj : j < n) (hn : n < 2 ^ 31) (hr : rs[j]? = some (some r))
    (kk : Z g d mc ms M (pc + 1) L (.ref r :: st) I S Q) : Z g d mc ms M pc L (.int i :: .ref a :: st) I S Q := by
  obtain ⟨h1, h2⟩ := in_nI hi hj hn
  have hrr := hr
  intro l p e R s m args below meth c H locs cells slots mcF msF ls Qc hC hD hQ
  have hC0 := hC
  have hD0 := hD
  obtain ⟨hx, hb, hr, hlk, hml, ho, hnm, ht, hK, hfr, hlo, hbs⟩ := hC
  obtain ⟨⟨hP, hsz⟩, hS, hL, hcc, hss, hcr, hsr⟩ := hD
  have hts : ∀ w ∈ lw_tbl.filter goodWord, w.before args s = true := fun w hw => ht w (List.mem_filter.mp hw)
  refine va_aldq hx hb hK.1 hP a 2 (wl_at hs) rfl h1 hd ?_
  rw [h2, List.getD_eq_getElem?_getD, hrr]
  exact kk l p e R s m args below meth c H locs cells slots mcF msF ls Qc hC0 hD0 hQ
theorem Z.alen {a n k : Nat} {rs : List (Option Nat)} (hd : decode M.2.1 pc = .ok (.arraylength, 1)) (hs : S[a]? = some (8, n, rs)) 
    (kk : Z g d mc ms M (pc + 1) L (.int (nI n) :: st) I S Q) : Z g d mc ms M pc L (.ref a :: st) I S Q := by
  intro l p e R s m args below meth c H locs cells slots mcF msF ls Qc hC hD hQ
  have hC0 := hC
  have hD0 := hD
  obtain ⟨hx, hb, hr, hlk, hml, ho, hnm, ht, hK, hfr, hlo, hbs⟩ := hC
  obtain ⟨⟨hP, hsz⟩, hS, hL, hcc, hss, hcr, hsr⟩ := hD
  have hts : ∀ w ∈ lw_tbl.filter goodWord, w.before args s = true := fun w hw => ht w (List.mem_filter.mp hw)
  refine va_alen hx hb hK.1 hP a 0 (wl_at hs) (ty := .int) rfl (v := nI n) rfl hd ?_
  exact kk l p e R s m args below meth c H locs cells slots mcF msF ls Qc hC0 hD0 hQ
theorem Z.iast {a j n : Nat} {rs : List (Option Nat)} {i x : Int32} (hd : decode M.2.1 pc = .ok (.iastore, 1)) (hs : S[a]? = some (8, n, rs)) (hi : i = nI j) (hj : j < n) (hn : n < 2 ^ 31)
    (kk : Z g d mc ms M (pc + 1) L st (va_up I a (upd (I a) j x)) S Q) : Z g d mc ms M pc L (.int x :: .int i :: .ref a :: st) I S Q := by
  obtain ⟨h1, h2⟩ := in_nI hi hj hn
  intro l p e R s m args below meth c H locs cells slots mcF msF ls Qc hC hD hQ
  have hC0 := hC
  have hD0 := hD
  obtain ⟨hx, hb, hr, hlk, hml, ho, hnm, ht, hK, hfr, hlo, hbs⟩ := hC
  obtain ⟨⟨hP, hsz⟩, hS, hL, hcc, hss, hcr, hsr⟩ := hD
  have hts : ∀ w ∈ lw_tbl.filter goodWord, w.before args s = true := fun w hw => ht w (List.mem_filter.mp hw)
  have ha : (wl g I S)[a]? = some (g_b g + a, .inl (g.2.2.1, n, .inl (I a))) := wl_at hs
  refine W.iast hx hb (hP a _ ha) ((hK.1.2 0 _ (show (mTys g)[0]? = some (g.2.2.1, .int) from rfl)).1 n (fun j => .int (I a j))) (fun q => by cases q) (by show ¬ (i < 0 ∨ (arrV _ _ _).slots.size ≤ _); rw [arrV_size]; exact h1) rfl rfl hd fun H1 e9 z oq => ?_
  have hP' := hP.set wl_D ha (e := .inl (g.2.2.1, n, .inl (upd (I a) j x))) (by
    show H1[_]? = some (vp_cell _ _)
    rw [e9, vp_cell_i, vp_cell_i, arrV_store, h2]
    congr 2
    funext q
    by_cases hq : q = j
    · subst hq
      simp [updV, upd]
    · simp [updV, upd, hq]) oq
  rw [← ent_8 (rs := rs), wl_setI hs] at hP'
  exact kk l p e R s m args below meth c H1 _ cells slots mcF msF ls Qc hC0 ⟨⟨hP', z.trans hsz⟩, hS.put z oq (Nat.le_add_right _ _), hL, hcc, hss, hcr, hsr⟩ hQ
theorem Z.zast {a j n : Nat} {rs : List (Option Nat)} {i x : Int32} (hd : decode M.2.1 pc = .ok (.bastore, 1)) (hs : S[a]? = some (9, n, rs)) (hi : i = nI j) (hj : j < n) (hn : n < 2 ^ 31)
    (kk : Z g d mc ms M (pc + 1) L st (va_up I a (upd (I a) j (x &&& 1))) S Q) : Z g d mc ms M pc L (.int x :: .int i :: .ref a :: st) I S Q := by
  obtain ⟨h1, h2⟩ := in_nI hi hj hn
  intro l p e R s m args below meth c H locs cells slots mcF msF ls Qc hC hD hQ
  have hC0 := hC
  have hD0 := hD
  obtain ⟨hx, hb, hr, hlk, hml, ho, hnm, ht, hK, hfr, hlo, hbs⟩ := hC
  obtain ⟨⟨hP, hsz⟩, hS, hL, hcc, hss, hcr, hsr⟩ := hD
  have hts : ∀ w ∈ lw_tbl.filter goodWord, w.before args s = true := fun w hw => ht w (List.mem_filter.mp hw)
  have ha : (wl g I S)[a]? = some (g_b g + a, .inl (g.2.2.2.1, n, .inl (I a))) := wl_at hs
  refine W.zast hx hb (hP a _ ha) ((hK.1.2 1 _ (show (mTys g)[1]? = some (g.2.2.2.1, .boolean) from rfl)).1 n (fun j => .int (I a j))) (fun q => by cases q) (by show ¬ (i < 0 ∨ (arrV _ _ _).slots.size ≤ _); rw [arrV_size]; exact h1) rfl rfl hd fun H1 e9 z oq => ?_
  have hP' := hP.set wl_D ha (e := .inl (g.2.2.2.1, n, .inl (upd (I a) j (x &&& 1)))) (by
    show H1[_]? = some (vp_cell _ _)
    rw [e9, vp_cell_i, vp_cell_i, show narrow .boolean (.int x) = .int (x &&& 1) from rfl, arrV_store, h2]
    congr 2
    funext q
    by_cases hq : q = j
    · subst hq
      simp [updV, upd]
    · simp [updV, upd, hq]) oq
  rw [← ent_9 (rs := rs), wl_setI hs] at hP'
  exact kk l p e R s m args below meth c H1 _ cells slots mcF msF ls Qc hC0 ⟨⟨hP', z.trans hsz⟩, hS.put z oq (Nat.le_add_right _ _), hL, hcc, hss, hcr, hsr⟩ hQ

theorem Z.iret {v : Int32} (hd : decode M.2.1 pc = .ok (.ireturn, 1)) (hM : M.2.2.2 = some .int) (hq : Q (some (.int v)) I S) : Z g d mc ms M pc L [.int v] I S Q := by
  intro l p e R s m args below meth c H locs cells slots mcF msF ls Qc hC hD hQ
  have hC0 := hC
  have hD0 := hD
  obtain ⟨hx, hb, hr, hlk, hml, ho, hnm, ht, hK, hfr, hlo, hbs⟩ := hC
  obtain ⟨⟨hP, hsz⟩, hS, hL, hcc, hss, hcr, hsr⟩ := hD
  have hts : ∀ w ∈ lw_tbl.filter goodWord, w.before args s = true := fun w hw => ht w (List.mem_filter.mp hw)
  refine W.widen (k := mcF) (n := msF) (by omega) (by omega) ?_
  exact W.iret (v := v) hx hb (hr.trans hM) (fun t hth hW => hQ (some (.int v)) I S t hq (by rw [hth]; exact ⟨hP, hsz⟩) (hS.F hth) hW) hS.2.2 hd hlk
theorem Z.zret {v : Int32} (hd : decode M.2.1 pc = .ok (.ireturn, 1)) (hM : M.2.2.2 = some .boolean) (hv : v = 0 ∨ v = 1) (hq : Q (some (.int v)) I S) : Z g d mc ms M pc L [.int v] I S Q := by
  intro l p e R s m args below meth c H locs cells slots mcF msF ls Qc hC hD hQ
  have hC0 := hC
  have hD0 := hD
  obtain ⟨hx, hb, hr, hlk, hml, ho, hnm, ht, hK, hfr, hlo, hbs⟩ := hC
  obtain ⟨⟨hP, hsz⟩, hS, hL, hcc, hss, hcr, hsr⟩ := hD
  have hts : ∀ w ∈ lw_tbl.filter goodWord, w.before args s = true := fun w hw => ht w (List.mem_filter.mp hw)
  refine W.widen (k := mcF) (n := msF) (by omega) (by omega) ?_
  exact W.zret (v := v) hx hb (hr.trans hM) (by rcases hv with rfl | rfl <;> decide) (fun t hth hW => hQ (some (.int v)) I S t hq (by rw [hth]; exact ⟨hP, hsz⟩) (hS.F hth) hW) hS.2.2 hd hlk
theorem Z.vret (hd : decode M.2.1 pc = .ok (.return_, 1)) (hM : M.2.2.2 = none) (hq : Q none I S) : Z g d mc ms M pc L [] I S Q := by
  intro l p e R s m args below meth c H locs cells slots mcF msF ls Qc hC hD hQ
  have hC0 := hC
  have hD0 := hD
  obtain ⟨hx, hb, hr, hlk, hml, ho, hnm, ht, hK, hfr, hlo, hbs⟩ := hC
  obtain ⟨⟨hP, hsz⟩, hS, hL, hcc, hss, hcr, hsr⟩ := hD
  have hts : ∀ w ∈ lw_tbl.filter goodWord, w.before args s = true := fun w hw => ht w (List.mem_filter.mp hw)
  refine W.widen (k := mcF) (n := msF) (by omega) (by omega) ?_
  exact W.vret hx hb (hr.trans hM) (fun t hth hW => hQ none I S t hq (by rw [hth]; exact ⟨hP, hsz⟩) (hS.F hth) hW) hS.2.2 hd hlk
theorem Z.aret {v : Value} {n : String} (hd : decode M.2.1 pc = .ok (.areturn, 1)) (hM : M.2.2.2 = some (.object n)) (hv : v = .null ∨ ∃ a, v = .ref a) (hq : Q (some v) I S) : Z g d mc ms M pc L [v] I S Q := by
  intro l p e R s m args below meth c H locs cells slots mcF msF ls Qc hC hD hQ
  have hC0 := hC
  have hD0 := hD
  obtain ⟨hx, hb, hr, hlk, hml, ho, hnm, ht, hK, hfr, hlo, hbs⟩ := hC
  obtain ⟨⟨hP, hsz⟩, hS, hL, hcc, hss, hcr, hsr⟩ := hD
  have hts : ∀ w ∈ lw_tbl.filter goodWord, w.before args s = true := fun w hw => ht w (List.mem_filter.mp hw)
  refine W.widen (k := mcF) (n := msF) (by omega) (by omega) ?_
  exact W.aret (v := sv (g_b g) v) hx hb (hr.trans hM) (Or.inl ⟨n, rfl⟩) (by rcases hv with rfl | ⟨a, rfl⟩; exact Or.inl rfl; exact Or.inr ⟨_, rfl⟩) (fun t hth hW => hQ (some v) I S t hq (by rw [hth]; exact ⟨hP, hsz⟩) (hS.F hth) hW) hS.2.2 hd hlk

end ZH
