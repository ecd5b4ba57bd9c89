/-! THROWS: new E(text), thrown, leaves the method -/
def xWb : Cond → Bool
  | .declares _ => true
  | .castable _ _ => true
  | w => goodWord w
theorem xWb_ok {w : Cond} (h : xWb w = true) : xW w := by
  cases w <;> first | exact Or.inr (Or.inl ⟨_, rfl⟩) | exact Or.inr (Or.inr ⟨_, _, rfl⟩) | exact Or.inl h
theorem x_at {L : List Cond} (ps : List Nat) (hp : L = ps.filterMap (fun i => tables_1[i]?)) (hx : L.all xWb = true) : ∀ w ∈ L, w ∈ lw_tbl ∧ xW w := by
  intro w hw
  refine ⟨?_, xWb_ok (List.all_eq_true.mp hx w hw)⟩
  rw [hp] at hw
  obtain ⟨i, -, hi⟩ := List.mem_filterMap.mp hw
  exact List.mem_append_right _ (List.mem_of_getElem? hi)
theorem x_ot {w : Cond} (h : xWb w = true) : vx_ot w = true := by
  unfold vx_ot
  cases w <;> first | (simp [Cond.onTables]; done) | (simp only [Bool.or_eq_true]; exact Or.inr h)
section XT
variable {G : gV} {F : gF} {Q : State → Prop} {nL : Nat} {M : gMem} {rc rs pc k : Nat} {lv : List (Nat × Value)} {st : List Value} {cc : ByteArray} {own : String} {Post : Option Value → gMem → Prop} {PX : String → gMem → Prop}
theorem x_stat (X : qX G F cc nL own k) {C n d : String} (w1 : Cond.laysStatic C n d ∈ lw_tbl) (w2 : Cond.initialized C ∈ lw_tbl) (w3 : ∀ b : Nat, (Jvm.Cond.and given_1 narrow_1).before #[Value.ref b] (gU G) = true → (Cond.isRef (.static C n d)).before #[Value.ref b] (gU G) = true) : vx_Zq C n d (fA F) (fs F) (fs F).heap := by
  obtain ⟨-, hW, hold, hI⟩ := X.2.2.2.2.2.1
  obtain ⟨hB, b, hts, hn⟩ := hI
  have hZ0 : vx_Zq C n d (fun q => gB G ≤ q) (gU G) (gU G).heap := vx_Zqof (args := #[Value.ref b]) (hts _ w1) (hts _ w2) (w3 b hn) (fun a ha => Nat.not_le.mpr (by rw [hB]; exact ha))
  have hZ1 := (vx_Zq.moved hW.alike hZ0).kept (H1 := (fs F).heap) (fun a _ hn => hold a (Nat.not_le.mp hn))
  exact hZ1.narrow (fun q h => by
    rcases h with h | h
    · exact X.2.2.2.2.2.2.2.2.2.2 q h
    · exact Nat.le_trans X.2.2.2.2.2.2.2.2.2.1 h)
theorem x_str (X : qX G F cc nL own k) {o : String} {is : Nat} {text : String} (w1 : Cond.stringRef o is text ∈ lw_tbl) (w3 : ∀ b : Nat, (Jvm.Cond.and given_1 narrow_1).before #[Value.ref b] (gU G) = true → (Cond.exactly (.string o is) "java/lang/String").before #[Value.ref b] (gU G) = true) : ∃ sa, vk_R o is text sa (fs F) := by
  obtain ⟨-, hW, hold, hI⟩ := X.2.2.2.2.2.1
  obtain ⟨hB, b, hts, hn⟩ := hI
  obtain ⟨a, c, cell, kk, h1, -⟩ := Cond.exactly_spec (w3 b hn)
  exact ⟨a, vk_R.warm hW (vk_R.of (A := #[Value.ref b]) (hts _ w1) h1)⟩
theorem x_X {H : Heap} {locs : List Loc} (h1 : gOk G F M H locs) {E : String} (hp : PX E M) {t : State} (e1 : H.size ≤ t.heap.size) (e2 : ∀ q : Nat, q < H.size → t.heap[q]? = H[q]?) : xX G (fM F) (fs F).heap.size PX E (fs F) t := by
  obtain ⟨hS, hR, hA⟩ := h1
  refine ⟨⟨M, hp, ⟨Nat.le_trans hR.1 e1, fun b f hf => ⟨(hR.2 b f hf).1, (hR.2 b f hf).2.kept (e2 b (g_lt hR hf))⟩⟩, hA⟩, ?_⟩
  exact ⟨Nat.le_trans hS.1 e1, fun q q1 q2 => (e2 q (Nat.lt_of_lt_of_le q1 hS.1)).trans (hS.2.1 q q1 q2)⟩
abbrev nmsE : List String := ["java/lang/RuntimeException", "java/lang/Exception"]
/-- what a throw of E stands on -/
def xE (ic : Nat) (E : String) : Prop := Bundle.fit E = true ∧ (∀ w ∈ vx_atS "GridVault" ic E nmsE, w ∈ lw_tbl ∧ xW w) ∧ (∀ w ∈ vx_atS "GridVault" ic E nmsE, vx_ot w = true)
theorem nms_fit : ∀ n ∈ nmsE, Bundle.fit n = true := by decide +kernel

theorem x_throw (X : qX G F cc nL own k) (hown : own = "GridVault") (hN : xN F) (hl : (fl F).stackTraces = false) {E text : String} {ik is ic : Nat} (hE : xE ic E) (wk : Cond.classLink own ik E ∈ gT) (wi : Cond.initialized E ∈ gT) (hstr : ∃ sa, vk_R own is text sa (fs F)) (d0 : decode cc pc = .ok (.new ik, 3)) (d3 : decode cc (pc + 3) = .ok (.dup, 1)) (d4 : decode cc (pc + 4) = .ok (.ldc is, 2)) (d6 : decode cc (pc + 6) = .ok (.invokespecial ic, 3)) (d9 : decode cc (pc + 9) = .ok (.athrow, 1)) (hk : 6 ≤ k) (hw : (st.map fun v => v.category).sum ≤ 8) (hrc : 1 ≤ rc) (hrs : 6 ≤ rs) (hp : PX E M) : qJ G F (xQ G F Post PX) nL M rc rs pc lv st := by
  subst hown
  intro H locs ls cells slots h1 h2 h3 h4
  obtain ⟨sa, hstr⟩ := hstr
  have hfr := X.2.2.2.2.2.2.2.1
  have hlo := X.2.2.2.2.2.2.2.2.1
  refine vx_throwS (names := nmsE) (A := fA F) X.1 X.2.1 hl X.2.2.2.1 hE.1 nms_fit (X.2.2.2.2.1 _ wk) (X.2.2.2.2.1 _ wi) hstr (x_words X hE.2.1) (fun w hw => ?_) (x_stat X tn_335 (List.mem_filter.mp tw_16).1 (fun b hn => (ca_l (ca_r (ca_l (ca_r (ca_l (ca_l (ca_l (ca_l (ca_l (ca_r hn)))))))))))) (x_stat X tn_337 (List.mem_filter.mp tw_16).1 (fun b hn => (ca_r (ca_r (ca_l (ca_r (ca_l (ca_l (ca_l (ca_l (ca_l (ca_r hn)))))))))))) h1.1 (h2.1.trans X.2.2.1.symm) d0 d3 d4 d6 d9 (fun x hx => (hN x hx).elim) ?_ ?_ ?_ ?_ X.2.2.2.2.2.2.1 (fun t _ e1 e2 => x_X h1 hp e1 e2) (fun z hz => h1.1.2.2 z hz) ?_ ?_
  · rcases List.mem_cons.mp hw with rfl | hw
    · unfold vx_ot; rw [gT_good wk]; simp
    · rcases List.mem_cons.mp hw with rfl | hw
      · unfold vx_ot; rw [gT_good wi]; simp
      · exact hE.2.2 w hw
  · rw [hfr]; show 2 + 3 < k; omega
  · rw [hlo]; show (st.map fun v => v.category).sum + (13 * (2 + 1) + 43) ≤ 40 * k; omega
  · omega
  · omega
  · omega
  · omega

theorem x_throwW (X : qX G F cc nL own k) (hown : own = "GridVault") (hN : xN F) (hl : (fl F).stackTraces = false) {E text : String} {ik is ic : Nat} (hE : xE ic E) (wk : Cond.classLink own ik E ∈ gT) (wi : Cond.initialized E ∈ gT) (hstr : ∃ sa, vk_R own is text sa (fs F)) (d0 : decode cc pc = .ok (.new ik, 3)) (d3 : decode cc (pc + 3) = .ok (.dup, 1)) (d4 : decode cc (pc + 4) = .ok (.ldc_w is, 3)) (d7 : decode cc (pc + 7) = .ok (.invokespecial ic, 3)) (d10 : decode cc (pc + 10) = .ok (.athrow, 1)) (hk : 6 ≤ k) (hw : (st.map fun v => v.category).sum ≤ 8) (hrc : 1 ≤ rc) (hrs : 6 ≤ rs) (hp : PX E M) : qJ G F (xQ G F Post PX) nL M rc rs pc lv st := by
  subst hown
  intro H locs ls cells slots h1 h2 h3 h4
  obtain ⟨sa, hstr⟩ := hstr
  have hfr := X.2.2.2.2.2.2.2.1
  have hlo := X.2.2.2.2.2.2.2.2.1
  refine vx_throwSW (names := nmsE) (A := fA F) X.1 X.2.1 hl X.2.2.2.1 hE.1 nms_fit (X.2.2.2.2.1 _ wk) (X.2.2.2.2.1 _ wi) hstr (x_words X hE.2.1) (fun w hw => ?_) (x_stat X tn_335 (List.mem_filter.mp tw_16).1 (fun b hn => (ca_l (ca_r (ca_l (ca_r (ca_l (ca_l (ca_l (ca_l (ca_l (ca_r hn)))))))))))) (x_stat X tn_337 (List.mem_filter.mp tw_16).1 (fun b hn => (ca_r (ca_r (ca_l (ca_r (ca_l (ca_l (ca_l (ca_l (ca_l (ca_r hn)))))))))))) h1.1 (h2.1.trans X.2.2.1.symm) d0 d3 d4 d7 d10 (fun x hx => (hN x hx).elim) ?_ ?_ ?_ ?_ X.2.2.2.2.2.2.1 (fun t _ e1 e2 => x_X h1 hp e1 e2) (fun z hz => h1.1.2.2 z hz) ?_ ?_
  · rcases List.mem_cons.mp hw with rfl | hw
    · unfold vx_ot; rw [gT_good wk]; simp
    · rcases List.mem_cons.mp hw with rfl | hw
      · unfold vx_ot; rw [gT_good wi]; simp
      · exact hE.2.2 w hw
  · rw [hfr]; show 2 + 3 < k; omega
  · rw [hlo]; show (st.map fun v => v.category).sum + (13 * (2 + 1) + 43) ≤ 40 * k; omega
  · omega
  · omega
  · omega
  · omega

end XT
abbrev eIA : String := "java/lang/IllegalArgumentException"
theorem a_IA : vx_atS "GridVault" 136 "java/lang/IllegalArgumentException" nmsE = ([16, 330, 339, 344, 347, 349, 331, 332, 38, 39, 333, 338, 345, 365, 320, 366, 322, 367, 324, 334, 336, 326, 361, 362, 364, 326, 391, 392, 393, 355, 312, 355, 356, 357, 358, 314, 358, 359, 360, 361, 316, 390, 381, 382, 383, 341, 384, 385, 386, 387, 363, 328, 388] : List Nat).filterMap (fun i => tables_1[i]?) := by decide +kernel
theorem b_IA : (vx_atS "GridVault" 136 "java/lang/IllegalArgumentException" nmsE).all xWb = true := by decide +kernel
theorem xe_IA : xE 136 eIA := ⟨by decide +kernel, x_at _ a_IA b_IA, fun w hw => x_ot (List.all_eq_true.mp b_IA w hw)⟩
abbrev eIS : String := "java/lang/IllegalStateException"
theorem a_IS : vx_atS "GridVault" 39 "java/lang/IllegalStateException" nmsE = ([16, 330, 339, 344, 347, 349, 331, 332, 38, 39, 333, 338, 345, 365, 320, 366, 322, 367, 324, 334, 336, 326, 361, 362, 364, 326, 352, 353, 354, 355, 312, 355, 356, 357, 358, 314, 358, 359, 360, 361, 316, 351, 309, 310, 317, 318, 319, 321, 323, 325, 363, 328, 327] : List Nat).filterMap (fun i => tables_1[i]?) := by decide +kernel
theorem b_IS : (vx_atS "GridVault" 39 "java/lang/IllegalStateException" nmsE).all xWb = true := by decide +kernel
theorem xe_IS : xE 39 eIS := ⟨by decide +kernel, x_at _ a_IS b_IS, fun w hw => x_ot (List.all_eq_true.mp b_IS w hw)⟩
abbrev eIO : String := "java/lang/IndexOutOfBoundsException"
theorem a_IO : vx_atS "GridVault" 91 "java/lang/IndexOutOfBoundsException" nmsE = ([16, 330, 339, 344, 347, 349, 331, 332, 38, 39, 333, 338, 345, 365, 320, 366, 322, 367, 324, 334, 336, 326, 361, 362, 364, 326, 423, 424, 425, 355, 312, 355, 356, 357, 358, 314, 358, 359, 360, 361, 316, 422, 413, 414, 415, 342, 416, 417, 418, 419, 363, 328, 420] : List Nat).filterMap (fun i => tables_1[i]?) := by decide +kernel
theorem b_IO : (vx_atS "GridVault" 91 "java/lang/IndexOutOfBoundsException" nmsE).all xWb = true := by decide +kernel
theorem xe_IO : xE 91 eIO := ⟨by decide +kernel, x_at _ a_IO b_IO, fun w hw => x_ot (List.all_eq_true.mp b_IO w hw)⟩
abbrev eUO : String := "java/lang/UnsupportedOperationException"
theorem a_UO : vx_atS "GridVault" 262 "java/lang/UnsupportedOperationException" nmsE = ([16, 330, 339, 344, 347, 349, 331, 332, 38, 39, 333, 338, 345, 365, 320, 366, 322, 367, 324, 334, 336, 326, 361, 362, 364, 326, 686, 687, 688, 355, 312, 355, 356, 357, 358, 314, 358, 359, 360, 361, 316, 685, 676, 677, 678, 343, 679, 680, 681, 682, 363, 328, 683] : List Nat).filterMap (fun i => tables_1[i]?) := by decide +kernel
theorem b_UO : (vx_atS "GridVault" 262 "java/lang/UnsupportedOperationException" nmsE).all xWb = true := by decide +kernel
theorem xe_UO : xE 262 eUO := ⟨by decide +kernel, x_at _ a_UO b_UO, fun w hw => x_ot (List.all_eq_true.mp b_UO w hw)⟩
theorem s_37 {G : gV} {F : gF} {cc : ByteArray} {nL : Nat} {own : String} {k : Nat} (X : qX G F cc nL own k) : ∃ sa, vk_R "GridVault" 37 "begin was done twice" sa (fs F) := x_str X tn_350 (fun b hn => (ca_l (ca_r (ca_r (ca_l (ca_r (ca_r (ca_l (ca_l (ca_r hn))))))))))
theorem s_299 {G : gV} {F : gF} {cc : ByteArray} {nL : Nat} {own : String} {k : Nat} (X : qX G F cc nL own k) : ∃ sa, vk_R "GridVault" 299 "an argument is not as the document says" sa (fs F) := x_str X tn_389 (fun b hn => (ca_l (ca_r (ca_r (ca_r (ca_l (ca_l (ca_l (ca_r (ca_l (ca_r hn)))))))))))
theorem s_253 {G : gV} {F : gF} {cc : ByteArray} {nL : Nat} {own : String} {k : Nat} (X : qX G F cc nL own k) : ∃ sa, vk_R "GridVault" 253 "there is no such cell" sa (fs F) := x_str X tn_421 (fun b hn => (ca_r (ca_r (ca_l (ca_r (ca_l (ca_l (ca_r (ca_r (ca_l (ca_r hn)))))))))))
theorem s_89 {G : gV} {F : gF} {cc : ByteArray} {nL : Nat} {own : String} {k : Nat} (X : qX G F cc nL own k) : ∃ sa, vk_R "GridVault" 89 "there are 41 versions" sa (fs F) := x_str X tn_479 (fun b hn => (ca_r (ca_r (ca_r (ca_r (ca_l (ca_r (ca_r (ca_r (ca_l (ca_r hn)))))))))))
theorem s_134 {G : gV} {F : gF} {cc : ByteArray} {nL : Nat} {own : String} {k : Nat} (X : qX G F cc nL own k) : ∃ sa, vk_R "GridVault" 134 "what is not 0..3" sa (fs F) := x_str X tn_586 (fun b hn => (ca_l (ca_r (ca_r (ca_l (ca_r (ca_l (ca_l (ca_l (ca_r (ca_r hn)))))))))))
theorem s_301 {G : gV} {F : gF} {cc : ByteArray} {nL : Nat} {own : String} {k : Nat} (X : qX G F cc nL own k) : ∃ sa, vk_R "GridVault" 301 "there are 150 nodes" sa (fs F) := x_str X tn_610 (fun b hn => (ca_r (ca_r (ca_r (ca_l (ca_r (ca_r (ca_l (ca_l (ca_r (ca_r hn)))))))))))
theorem s_306 {G : gV} {F : gF} {cc : ByteArray} {nL : Nat} {own : String} {k : Nat} (X : qX G F cc nL own k) : ∃ sa, vk_R "GridVault" 306 "the shape or the depth would be beyond the limits" sa (fs F) := x_str X tn_684 (fun b hn => (ca_l (ca_r (ca_r (ca_r (ca_r (ca_l (ca_r (ca_l (ca_r (ca_r hn)))))))))))
theorem s_260 {G : gV} {F : gF} {cc : ByteArray} {nL : Nat} {own : String} {k : Nat} (X : qX G F cc nL own k) : ∃ sa, vk_R "GridVault" 260 "the cell is empty" sa (fs F) := x_str X tn_1119 (fun b hn => (ca_l (ca_l (ca_l (ca_r (ca_r (ca_l (ca_r (ca_r (ca_r hn))))))))))
theorem s_277 {G : gV} {F : gF} {cc : ByteArray} {nL : Nat} {own : String} {k : Nat} (X : qX G F cc nL own k) : ∃ sa, vk_R "GridVault" 277 "all cells are empty" sa (fs F) := x_str X tn_1130 (fun b hn => (ca_r (ca_r (ca_r (ca_l (ca_r (ca_l (ca_r (ca_r (ca_r (ca_r hn)))))))))))
