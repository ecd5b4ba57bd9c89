/-! CALLS OF INHERITED AND OVERRIDING METHODS; the fields of a node, whatever its kind -/
section QU
variable {G : gV} {F : gF} {Q : State → Prop} {nL : Nat} {M : gMem} {rc rs pc k : Nat} {lv : List (Nat × Value)} {st : List Value} {cc : ByteArray} {own : String} {Post : Option Value → gMem → Prop}
theorem g_decl (X : qX G F cc nL own k) {x : MethodName} (w : Cond.declares x ∈ lw_tbl) : va_Decl (fs F) x := by
  obtain ⟨-, hW, -, -, b, hts, -⟩ := X.2.2.2.2.2.1
  have h0 : va_Nw (.declares x) (gU G) := va_Nw.of rfl (hts _ w)
  have h1 : (Cond.declares x).before #[] ((gU G).setVm (fs F).vm) = true := by rw [Cond.declares_setVm hW.alike]; exact h0
  exact va_Decl.abs (va_Nw.same (u := (gU G).setVm (fs F).vm) rfl rfl h1)
theorem g_declC (X : qX G F cc nL own k) {y : MethodName} {b : ByteArray} {m0 : Nat} {ret : Option FieldType} (w1 : Cond.instanceMethod y ∈ gT) (w2 : Cond.code y b m0 ret ∈ gT) : va_Decl (fs F) y := va_Decl.of (X.2.2.2.2.1 _ w1) (X.2.2.2.2.1 _ w2)
/-- a virtual call: the link names x, of 'owner'; the receiver's class C selects y -/
theorem q_callU (X : qX G F cc nL own k) {x y : MethodName} {owner : String} {bytes : ByteArray} {nL' n index k' mc ms b ci : Nat} {ret : Option FieldType} {As rest fs0 : List Value} (hM : qC (fl F) G y bytes nL' ret k' mc ms (.ref b :: As) M Post) (hY : qY y bytes nL' ret n) (wl : Cond.methodLink own index x ∈ gT) (wsm : Cond.sameMethod x.cls owner x.name x.desc ∈ gT) (hmh : owner ≠ "java/lang/invoke/MethodHandle" ∧ owner ≠ "java/lang/invoke/VarHandle") (hxd : x.desc = y.desc) (hde : va_Decl (fs F) ⟨owner, x.name, x.desc⟩) (wi : Cond.instanceMethod y ∈ gT) (hse : ∃ r : vw_C, vwCl[ci]? = some r ∧ Cond.selects r.1 x y ∈ gT) (ha : M b = some (.inr (ci, fs0))) (hk : k' + 1 ≤ k) (hn : As.length = n) (hst : st = As.reverse ++ .ref b :: rest) (hw : (rest.map fun v => v.category).sum ≤ 8) {rc' rs' : Nat} (hrc : rc' + mc ≤ rc) (hrs : rs' + ms ≤ rs) (d : decode cc pc = .ok (.invokevirtual index, 3))
    (kk : ∀ (v : Option Value) (M' : gMem), Post v M' → (∀ a, M' a ≠ none → M a ≠ none ∨ M a = none) → qJ G F Q nL M' rc' rs' (pc + 3) lv (v.toList ++ rest)) : qJ G F Q nL M rc rs pc lv st := by
  intro H locs ls cells slots h1 h2 h3 h4
  subst hst
  obtain ⟨r, hc, wse⟩ := hse
  have hts := X.2.2.2.2.1
  have hp := q_pre X h1 (fun _ _ h => h) (.ref b :: As)
  have cb := q_cb (k' := k') (mc := mc) (ms := ms) (index := index) X hY (y := y) 
  refine q_tail (fun _ _ h => h) h1 (va_runU (As := As) (rest := rest) ⟨X.1, X.2.1, X.2.2.1, X.2.2.2.1, X.2.2.2.2.1⟩ (hM H.size) (C := r.1) (owner := owner) (x := x)
    ⟨⟨rfl, rfl, by rw [X.2.2.2.2.2.2.2.1]; exact hk, by rw [X.2.2.2.2.2.2.2.2.1]; have h5 := hY.2.2.2; show 8 + (nL' + 11) + 40 * k' ≤ 40 * k; omega, pay_in hts (g_good hY.1), List.mem_cons_self⟩, hts _ hY.1, hts _ hY.2.1, hmh, fun sig h => by
        have h9 := hY.2.2.1.2.2
        rw [← hxd, h] at h9
        exact (Option.some.inj h9).symm, hts _ wl, hts _ wsm, hde, hts _ wse, hts _ wi⟩
    ⟨hp.1, va_recv X.2.2.2.2.2.1.1 (g_one h1.2.1 ha) hc (q0 := 0) rfl, hp.2⟩ rfl hn h2.1 rfl (lv_room hw) d ⟨by omega, by omega⟩) (fun v M' H' locs' g1 g2 g3 => kk v M' g1 g2 H' locs' ls _ _ (by rw [mJ_self] at g3; exact g3) h2 (by omega) (by omega))
theorem q_callUp (X : qX G F cc nL own k) {M1 : gMem} {x y : MethodName} {owner : String} {bytes : ByteArray} {nL' n index k' b ci : Nat} {ret : Option FieldType} {As rest fs0 : List Value} {r : Value} (hM : qC (fl F) G y bytes nL' ret k' 0 0 (.ref b :: As) M (pP r M1)) (hY : qY y bytes nL' ret n) (wl : Cond.methodLink own index x ∈ gT) (wsm : Cond.sameMethod x.cls owner x.name x.desc ∈ gT) (hmh : owner ≠ "java/lang/invoke/MethodHandle" ∧ owner ≠ "java/lang/invoke/VarHandle") (hxd : x.desc = y.desc) (hde : va_Decl (fs F) ⟨owner, x.name, x.desc⟩) (wi : Cond.instanceMethod y ∈ gT) (hse : ∃ r : vw_C, vwCl[ci]? = some r ∧ Cond.selects r.1 x y ∈ gT) (ha : M b = some (.inr (ci, fs0))) (hk : k' + 1 ≤ k) (hn : As.length = n) (hst : st = As.reverse ++ .ref b :: rest) (hw : (rest.map fun v => v.category).sum ≤ 8) (d : decode cc pc = .ok (.invokevirtual index, 3))
    (kk : qJ G F Q nL M1 rc rs (pc + 3) lv (r :: rest)) : qJ G F Q nL M rc rs pc lv st :=
  q_callU X hM hY wl wsm hmh hxd hde wi hse ha hk hn hst hw (Nat.le_refl _) (Nat.le_refl _) d (fun v M' hp _ => by obtain ⟨rfl, rfl⟩ := hp; exact kk)
/-- the kinds of nodes -/
def isNC (ci : Nat) : Prop := ci = 3 ∨ ci = 4 ∨ ci = 5 ∨ ci = 6 ∨ ci = 9 ∨ ci = 10

theorem se_X5_form {ci : Nat} (h : isNC ci) : ∃ r : vw_C, vwCl[ci]? = some r ∧ Cond.selects r.1 yX5_form yX5_form ∈ gT := by
  rcases h with rfl | rfl | rfl | rfl | rfl | rfl
  · exact ⟨_, rfl, tw_631⟩
  · exact ⟨_, rfl, tw_632⟩
  · exact ⟨_, rfl, tw_633⟩
  · exact ⟨_, rfl, tw_634⟩
  · exact ⟨_, rfl, tw_635⟩
  · exact ⟨_, rfl, tw_636⟩
theorem se_X5_depth {ci : Nat} (h : isNC ci) : ∃ r : vw_C, vwCl[ci]? = some r ∧ Cond.selects r.1 yX5_depth yX5_depth ∈ gT := by
  rcases h with rfl | rfl | rfl | rfl | rfl | rfl
  · exact ⟨_, rfl, tw_661⟩
  · exact ⟨_, rfl, tw_662⟩
  · exact ⟨_, rfl, tw_663⟩
  · exact ⟨_, rfl, tw_664⟩
  · exact ⟨_, rfl, tw_665⟩
  · exact ⟨_, rfl, tw_666⟩
theorem se_X5_holds {ci : Nat} (h : isNC ci) : ∃ r : vw_C, vwCl[ci]? = some r ∧ Cond.selects r.1 yX5_holds yX5_holds ∈ gT := by
  rcases h with rfl | rfl | rfl | rfl | rfl | rfl
  · exact ⟨_, rfl, tw_956⟩
  · exact ⟨_, rfl, tw_957⟩
  · exact ⟨_, rfl, tw_958⟩
  · exact ⟨_, rfl, tw_959⟩
  · exact ⟨_, rfl, tw_960⟩
  · exact ⟨_, rfl, tw_961⟩
theorem se_X5_number {ci : Nat} (h : isNC ci) : ∃ r : vw_C, vwCl[ci]? = some r ∧ Cond.selects r.1 yX5_number yX5_number ∈ gT := by
  rcases h with rfl | rfl | rfl | rfl | rfl | rfl
  · exact ⟨_, rfl, tw_974⟩
  · exact ⟨_, rfl, tw_975⟩
  · exact ⟨_, rfl, tw_976⟩
  · exact ⟨_, rfl, tw_977⟩
  · exact ⟨_, rfl, tw_978⟩
  · exact ⟨_, rfl, tw_979⟩
theorem se_X5_filled {ci : Nat} (h : isNC ci) : ∃ r : vw_C, vwCl[ci]? = some r ∧ Cond.selects r.1 yX5_filled yX5_filled ∈ gT := by
  rcases h with rfl | rfl | rfl | rfl | rfl | rfl
  · exact ⟨_, rfl, tw_946⟩
  · exact ⟨_, rfl, tw_947⟩
  · exact ⟨_, rfl, tw_948⟩
  · exact ⟨_, rfl, tw_949⟩
  · exact ⟨_, rfl, tw_950⟩
  · exact ⟨_, rfl, tw_951⟩
theorem q_get_shape (X : qX G F cc nL RX5 k) {ci a : Nat} {w0 w1 w2 w3 : Value} {ex : List Value} (hci : isNC ci) (ha : M a = some (.inr (ci, w0 :: w1 :: w2 :: w3 :: ex))) (d : decode cc pc = .ok (.getfield 7, 3)) (kk : qJ G F Q nL M rc rs (pc + 3) lv (w0 :: st)) : qJ G F Q nL M rc rs pc lv (.ref a :: st) := by
  rcases hci with rfl | rfl | rfl | rfl | rfl | rfl
  · exact q_get X ha rfl in_RX2 0 (by decide) tw_159 rfl rfl d kk
  · exact q_get X ha rfl in_RX3 0 (by decide) tw_159 rfl rfl d kk
  · exact q_get X ha rfl in_RX4 0 (by decide) tw_159 rfl rfl d kk
  · exact q_get X ha rfl in_RX6 0 (by decide) tw_159 rfl rfl d kk
  · exact q_get X ha rfl in_RX9 0 (by decide) tw_159 rfl rfl d kk
  · exact q_get X ha rfl in_RX10 0 (by decide) tw_159 rfl rfl d kk
theorem q_get_depth (X : qX G F cc nL RX5 k) {ci a : Nat} {w0 w1 w2 w3 : Value} {ex : List Value} (hci : isNC ci) (ha : M a = some (.inr (ci, w0 :: w1 :: w2 :: w3 :: ex))) (d : decode cc pc = .ok (.getfield 13, 3)) (kk : qJ G F Q nL M rc rs (pc + 3) lv (w1 :: st)) : qJ G F Q nL M rc rs pc lv (.ref a :: st) := by
  rcases hci with rfl | rfl | rfl | rfl | rfl | rfl
  · exact q_get X ha rfl in_RX2 1 (by decide) tw_160 rfl rfl d kk
  · exact q_get X ha rfl in_RX3 1 (by decide) tw_160 rfl rfl d kk
  · exact q_get X ha rfl in_RX4 1 (by decide) tw_160 rfl rfl d kk
  · exact q_get X ha rfl in_RX6 1 (by decide) tw_160 rfl rfl d kk
  · exact q_get X ha rfl in_RX9 1 (by decide) tw_160 rfl rfl d kk
  · exact q_get X ha rfl in_RX10 1 (by decide) tw_160 rfl rfl d kk
theorem q_get_cells (X : qX G F cc nL RX5 k) {ci a : Nat} {w0 w1 w2 w3 : Value} {ex : List Value} (hci : isNC ci) (ha : M a = some (.inr (ci, w0 :: w1 :: w2 :: w3 :: ex))) (d : decode cc pc = .ok (.getfield 28, 3)) (kk : qJ G F Q nL M rc rs (pc + 3) lv (w2 :: st)) : qJ G F Q nL M rc rs pc lv (.ref a :: st) := by
  rcases hci with rfl | rfl | rfl | rfl | rfl | rfl
  · exact q_get X ha rfl in_RX2 2 (by decide) tw_161 rfl rfl d kk
  · exact q_get X ha rfl in_RX3 2 (by decide) tw_161 rfl rfl d kk
  · exact q_get X ha rfl in_RX4 2 (by decide) tw_161 rfl rfl d kk
  · exact q_get X ha rfl in_RX6 2 (by decide) tw_161 rfl rfl d kk
  · exact q_get X ha rfl in_RX9 2 (by decide) tw_161 rfl rfl d kk
  · exact q_get X ha rfl in_RX10 2 (by decide) tw_161 rfl rfl d kk
theorem q_get_asked (X : qX G F cc nL RX5 k) {ci a : Nat} {w0 w1 w2 w3 : Value} {ex : List Value} (hci : isNC ci) (ha : M a = some (.inr (ci, w0 :: w1 :: w2 :: w3 :: ex))) (d : decode cc pc = .ok (.getfield 38, 3)) (kk : qJ G F Q nL M rc rs (pc + 3) lv (w3 :: st)) : qJ G F Q nL M rc rs pc lv (.ref a :: st) := by
  rcases hci with rfl | rfl | rfl | rfl | rfl | rfl
  · exact q_get X ha rfl in_RX2 3 (by decide) tw_162 rfl rfl d kk
  · exact q_get X ha rfl in_RX3 3 (by decide) tw_162 rfl rfl d kk
  · exact q_get X ha rfl in_RX4 3 (by decide) tw_162 rfl rfl d kk
  · exact q_get X ha rfl in_RX6 3 (by decide) tw_162 rfl rfl d kk
  · exact q_get X ha rfl in_RX9 3 (by decide) tw_162 rfl rfl d kk
  · exact q_get X ha rfl in_RX10 3 (by decide) tw_162 rfl rfl d kk
end QU
