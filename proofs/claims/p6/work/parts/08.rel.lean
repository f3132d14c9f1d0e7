/-! how the clean heap lies in the machine's -/
def cz_en (cy : Nat → ClassId) : cz_C → va_E
  | .inl x => .inl (cy x.1, x.2)
  | .inr o => .inr o
def cz_ws (B : Nat) (cy : Nat → ClassId) (h : cz_H) : va_W := h.mapIdx (fun i c => (B + i, cz_en cy c))
theorem cz_ws_len (B : Nat) (cy : Nat → ClassId) (h : cz_H) : (cz_ws B cy h).length = h.length := by simp [cz_ws]
theorem cz_ws_get {B : Nat} {cy : Nat → ClassId} {h : cz_H} {i : Nat} {c : cz_C} (g : h[i]? = some c) : (cz_ws B cy h)[i]? = some (B + i, cz_en cy c) := by simp [cz_ws, g]
theorem cz_ws_at {E : cz_E} {cy : Nat → ClassId} {h : cz_H} {a : Nat} {c : cz_C} (g : cz_at E h a = some c) : (cz_ws E.1 cy h)[a - E.1]? = some (a, cz_en cy c) := by
  obtain ⟨h1, h2⟩ := cz_at_some g
  rw [cz_ws_get h2, Nat.add_sub_cancel' h1]
theorem cz_ws_set {B : Nat} {cy : Nat → ClassId} {h : cz_H} {i : Nat} {c : cz_C} : (cz_ws B cy h).set i (B + i, cz_en cy c) = cz_ws B cy (h.set i c) := by
  apply List.ext_getElem?
  intro k
  simp only [cz_ws, List.getElem?_set, List.getElem?_mapIdx, List.length_mapIdx]
  by_cases hk : i = k
  · subst hk
    by_cases hl : i < h.length <;> simp [hl]
  · simp [hk]
theorem cz_ws_sett {B : Nat} {cy : Nat → ClassId} {h : cz_H} {a : Nat} {c : cz_C} (ha : B ≤ a) : (cz_ws B cy h).set (a - B) (a, cz_en cy c) = cz_ws B cy (h.set (a - B) c) := by
  rw [← cz_ws_set, Nat.add_sub_cancel' ha]
theorem cz_ws_push {B : Nat} {cy : Nat → ClassId} {h : cz_H} {c : cz_C} : cz_ws B cy (h ++ [c]) = cz_ws B cy h ++ [(B + h.length, cz_en cy c)] := by
  simp [cz_ws, List.mapIdx_append]
def cz_cz : cz_C → Nat
  | .inl x => x.2.1
  | .inr o => o.2.length
def cz_sz (h : cz_H) : Nat := (h.map cz_cz).sum
theorem cz_sz_push (h : cz_H) (c : cz_C) : cz_sz (h ++ [c]) = cz_sz h + cz_cz c := by simp [cz_sz]
theorem cz_sz_set {h : cz_H} {i : Nat} {c c' : cz_C} (g : h[i]? = some c) (e : cz_cz c' = cz_cz c) : cz_sz (h.set i c') = cz_sz h := by
  unfold cz_sz
  congr 1
  apply List.ext_getElem?
  intro k
  simp only [List.getElem?_map, List.getElem?_set]
  by_cases hk : i = k
  · subst hk
    obtain ⟨hl, rfl⟩ := List.getElem?_eq_some_iff.mp g
    simp [hl, e]
  · simp [hk]
abbrev cz_A (E : cz_E) : Nat → Prop := fun q => E.1 ≤ q
def cz_tys (cy : Nat → ClassId) : List (ClassId × FieldType) := (List.range 7).map fun k => (cy k, cz_ty k)
theorem cz_tys_get {cy : Nat → ClassId} {k : Nat} (h : k < 7) : (cz_tys cy)[k]? = some (cy k, cz_ty k) := by simp [cz_tys, h]
/-- the machine's heap H holds the clean heap h; nothing below has changed since s -/
def cz_R (E : cz_E) (cy : Nat → ClassId) (D : va_G) (s : State) (h : cz_H) (H : Heap) (locs : List Loc) : Prop :=
  va_P D vwCl (cz_ws E.1 cy h) H ∧ va_D (cz_A E) (cz_ws E.1 cy h) ∧ va_S (cz_A E) s.heap H locs
/-- what is known at a method's start: classes, texts, the script, two statics -/
def cz_sr : List (Nat × Nat × Nat) := [(7, 49, 0), (7, 66, 1), (7, 71, 3), (7, 76, 4), (7, 92, 2), (7, 94, 12), (7, 100, 13), (7, 102, 5), (7, 107, 11), (7, 109, 6), (7, 114, 7), (7, 120, 8), (7, 126, 9), (7, 128, 10), (12, 178, 0), (12, 180, 1), (12, 182, 2), (12, 184, 3), (12, 186, 4), (12, 188, 7), (12, 190, 8), (12, 192, 9), (12, 194, 10), (12, 196, 6), (12, 210, 5), (12, 215, 11), (12, 223, 13), (12, 224, 12)]
/-- a word that holds at a call's start and stays by every warming -/
def lw_gd (w : Cond) : Bool := (w.onTables && w.keeps) || (match w with | .arrayClass _ => true | _ => false)
def lw_tg : List Cond := lw_tbl.filter lw_gd
theorem lw_tg_in {w : Cond} (h : w ∈ lw_tbl) (hg : lw_gd w = true) : w ∈ lw_tg := List.mem_filter.mpr ⟨h, hg⟩
theorem lw_tg_good : ∀ w ∈ lw_tg, (w.onTables && w.keeps) = true ∨ ∃ ty, w = .arrayClass ty := by
  intro w hw
  rcases Bool.or_eq_true_iff.mp (List.mem_filter.mp hw).2 with h2 | h2
  · exact Or.inl h2
  · right
    split at h2
    · exact ⟨_, rfl⟩
    · cases h2
/-- words of other kinds that stay too -/
def cz_isB (w : Cond) : Bool := match w with
  | .methodLinkNest .. => true
  | .arrayOver (.object _) => true
  | _ => false
theorem cz_isB_moved {w : Cond} {s U : State} (hb : cz_isB w = true) (hW : s.WarmedH U.vm) (h : va_Nw w s) : va_Nw w U := by
  unfold cz_isB at hb
  split at hb
  · exact va_Nw.warmM hW h
  · exact va_AO.moved hW.alike h
  · cases hb
theorem cz_isB_same {w : Cond} {s U : State} (hb : cz_isB w = true) (hW : s.vm = U.vm) (h : va_Nw w s) : va_Nw w U := by
  unfold cz_isB at hb
  split at hb
  · exact va_Nw.same rfl hW h
  · exact va_AO.moved (by rw [hW]; exact Vm.Alike.refl _) h
  · cases hb
def cz_G (E : cz_E) (cy : Nat → ClassId) (D : va_G) (s : State) : Prop :=
  va_K D vwCl (cz_tys cy) s ∧ vk_S 14 cz_sl cz_sb E.2.2.1 E.2.2.2.1 (cz_A E) s s.heap ∧ va_X E.2.1.1 E.2.1.2.1 E.2.1.2.2 s s.heap ∧ E.2.1.1 < E.1 ∧
  va_Z "java/lang/String" "COMPACT_STRINGS" "Z" (.int 1) (cz_A E) s s.heap ∧ va_Z "jdk/internal/util/Preconditions" "SIOOBE_FORMATTER" "Ljava/util/function/BiFunction;" E.2.2.2.2 (cz_A E) s s.heap ∧
  (∀ t ∈ cz_sr, ∃ own tx : String, cz_cn[t.1]? = some own ∧ vk_R own t.2.1 tx (E.2.2.1 t.2.2) s) ∧ E.1 ≤ s.heap.size ∧ (∀ w ∈ lw_tbl, cz_isB w = true → va_Nw w s)
theorem cz_G.calling {E : cz_E} {cy : Nat → ClassId} {D : va_G} {U : State} (g : JFrame) (mk : MethodId) (a : Array Value) (h : cz_G E cy D U) : cz_G E cy D (U.calling g mk a) := by
  obtain ⟨h1, h2, h3, h4, h5, h6, h7, h8, h9⟩ := h
  refine ⟨va_K.moved (u := U) (Vm.Alike.refl U.vm) h1, vk_S.moved (u := U) (Vm.Alike.refl U.vm) h2, ?_, h4, va_Z.moved (u := U) (Vm.Alike.refl U.vm) h5, va_Z.moved (u := U) (Vm.Alike.refl U.vm) h6, fun t ht => ?_, h8, fun w hw hb => cz_isB_same (s := U) hb rfl (h9 w hw hb)⟩
  · obtain ⟨scr, a1, a2, a3, a4⟩ := h3
    exact ⟨scr, a1, State.isArrayOf_alike (s := U) (Vm.Alike.refl U.vm) a2, a3, a4⟩
  · obtain ⟨own, tx, e1, e2⟩ := h7 t ht
    exact ⟨own, tx, e1, vk_R.same (u := U) rfl e2⟩
theorem cz_G.moved {E : cz_E} {cy : Nat → ClassId} {D : va_G} {s U : State} {locs : List Loc} (h : cz_G E cy D s) (hW : s.WarmedH U.vm) (hS : va_S (cz_A E) s.heap U.heap locs) : cz_G E cy D U := by
  obtain ⟨h1, h2, h3, h4, h5, h6, h7, h8, h9⟩ := h
  have hq : ∀ a : Nat, a < s.heap.size → ¬ cz_A E a → U.heap[a]? = s.heap[a]? := hS.2.1
  refine ⟨va_K.moved hW.alike h1, vk_S.moved hW.alike (vk_S.kept h2 hq), ?_, h4, va_Z.moved hW.alike (va_Z.kept h5 hq), va_Z.moved hW.alike (va_Z.kept h6 hq), fun t ht => ?_, Nat.le_trans h8 hS.1, fun w hw hb => cz_isB_moved hb hW (h9 w hw hb)⟩
  · obtain ⟨scr, a1, a2, a3, a4⟩ := h3
    exact ⟨scr, by rw [hq _ (Array.getElem?_eq_some_iff.mp a1).1 (Nat.not_le.mpr h4)]; exact a1, State.isArrayOf_alike hW.alike a2, a3, a4⟩
  · obtain ⟨own, tx, e1, e2⟩ := h7 t ht
    exact ⟨own, tx, e1, vk_R.warm hW e2⟩
/-- a kind's words, types, names: by its number -/
def cz_okc (ci : Nat) (r : vw_C) : Prop := (∀ w ∈ u_ws r.1 r.2.1 r.2.2, w ∈ lw_tg) ∧ (∀ k, k < r.2.2 → parseFieldDescriptor (r.2.1 k).2.2.1 = some (cz_fty ci k)) ∧ (∀ a, a < r.2.2 → ∀ b, b < r.2.2 → a ≠ b → (r.2.1 a).2.1 ≠ (r.2.1 b).2.1) ∧ cz_nf.getD ci 0 = r.2.2 ∧ Cond.instantiable r.1 r.2.2 ∈ lw_tg ∧ Cond.initialized r.1 ∈ lw_tg
theorem cz_okc_all : ∀ (ci : Nat) (r : vw_C), vwCl[ci]? = some r → cz_okc ci r := by
  intro ci r h
  match ci, h with
  | 0, h => cases h; exact ⟨fun w hw => lw_tg_in (inX0_ok w hw) ((by decide +kernel : ∀ w ∈ u_ws RX0 TX0 (vwCl.getD 0 (RX0, TX0, 0)).2.2, lw_gd w = true) w hw), tyX0_ok, nmX0, rfl, lw_tg_in (by decide +kernel) rfl, lw_tg_in (by decide +kernel) rfl⟩
  | 1, h => cases h; exact ⟨fun w hw => lw_tg_in (inX1_ok w hw) ((by decide +kernel : ∀ w ∈ u_ws RX1 TX1 (vwCl.getD 1 (RX0, TX0, 0)).2.2, lw_gd w = true) w hw), tyX1_ok, nmX1, rfl, lw_tg_in (by decide +kernel) rfl, lw_tg_in (by decide +kernel) rfl⟩
  | 2, h => cases h; exact ⟨fun w hw => lw_tg_in (inX2_ok w hw) ((by decide +kernel : ∀ w ∈ u_ws RX2 TX2 (vwCl.getD 2 (RX0, TX0, 0)).2.2, lw_gd w = true) w hw), tyX2_ok, nmX2, rfl, lw_tg_in (by decide +kernel) rfl, lw_tg_in (by decide +kernel) rfl⟩
  | 3, h => cases h; exact ⟨fun w hw => lw_tg_in (inX3_ok w hw) ((by decide +kernel : ∀ w ∈ u_ws RX3 TX3 (vwCl.getD 3 (RX0, TX0, 0)).2.2, lw_gd w = true) w hw), tyX3_ok, nmX3, rfl, lw_tg_in (by decide +kernel) rfl, lw_tg_in (by decide +kernel) rfl⟩
  | 4, h => cases h; exact ⟨fun w hw => lw_tg_in (inX4_ok w hw) ((by decide +kernel : ∀ w ∈ u_ws RX4 TX4 (vwCl.getD 4 (RX0, TX0, 0)).2.2, lw_gd w = true) w hw), tyX4_ok, nmX4, rfl, lw_tg_in (by decide +kernel) rfl, lw_tg_in (by decide +kernel) rfl⟩
  | 5, h => cases h; exact ⟨fun w hw => lw_tg_in (inX5_ok w hw) ((by decide +kernel : ∀ w ∈ u_ws RX5 TX5 (vwCl.getD 5 (RX0, TX0, 0)).2.2, lw_gd w = true) w hw), tyX5_ok, nmX5, rfl, lw_tg_in (by decide +kernel) rfl, lw_tg_in (by decide +kernel) rfl⟩
  | 6, h => cases h; exact ⟨fun w hw => lw_tg_in (inX6_ok w hw) ((by decide +kernel : ∀ w ∈ u_ws RX6 TX6 (vwCl.getD 6 (RX0, TX0, 0)).2.2, lw_gd w = true) w hw), tyX6_ok, nmX6, rfl, lw_tg_in (by decide +kernel) rfl, lw_tg_in (by decide +kernel) rfl⟩
  | 7, h => cases h; exact ⟨fun w hw => lw_tg_in (inX7_ok w hw) ((by decide +kernel : ∀ w ∈ u_ws RX7 TX7 (vwCl.getD 7 (RX0, TX0, 0)).2.2, lw_gd w = true) w hw), tyX7_ok, nmX7, rfl, lw_tg_in (by decide +kernel) rfl, lw_tg_in (by decide +kernel) rfl⟩
  | 8, h => cases h; exact ⟨fun w hw => lw_tg_in (inX8_ok w hw) ((by decide +kernel : ∀ w ∈ u_ws RX8 TX8 (vwCl.getD 8 (RX0, TX0, 0)).2.2, lw_gd w = true) w hw), tyX8_ok, nmX8, rfl, lw_tg_in (by decide +kernel) rfl, lw_tg_in (by decide +kernel) rfl⟩
  | 9, h => cases h; exact ⟨fun w hw => lw_tg_in (inX9_ok w hw) ((by decide +kernel : ∀ w ∈ u_ws RX9 TX9 (vwCl.getD 9 (RX0, TX0, 0)).2.2, lw_gd w = true) w hw), tyX9_ok, nmX9, rfl, lw_tg_in (by decide +kernel) rfl, lw_tg_in (by decide +kernel) rfl⟩
  | 10, h => cases h; exact ⟨fun w hw => lw_tg_in (inX10_ok w hw) ((by decide +kernel : ∀ w ∈ u_ws RX10 TX10 (vwCl.getD 10 (RX0, TX0, 0)).2.2, lw_gd w = true) w hw), tyX10_ok, nmX10, rfl, lw_tg_in (by decide +kernel) rfl, lw_tg_in (by decide +kernel) rfl⟩
  | 11, h => cases h; exact ⟨fun w hw => lw_tg_in (inX11_ok w hw) ((by decide +kernel : ∀ w ∈ u_ws RX11 TX11 (vwCl.getD 11 (RX0, TX0, 0)).2.2, lw_gd w = true) w hw), tyX11_ok, nmX11, rfl, lw_tg_in (by decide +kernel) rfl, lw_tg_in (by decide +kernel) rfl⟩
  | 12, h => cases h; exact ⟨fun w hw => lw_tg_in (inX12_ok w hw) ((by decide +kernel : ∀ w ∈ u_ws RX12 TX12 (vwCl.getD 12 (RX0, TX0, 0)).2.2, lw_gd w = true) w hw), tyX12_ok, nmX12, rfl, lw_tg_in (by decide +kernel) rfl, lw_tg_in (by decide +kernel) rfl⟩
  | n + 13, h => simp [vwCl] at h
