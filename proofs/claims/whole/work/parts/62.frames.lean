theorem I_num.sF {z : Hp} {f a : Nat} {v : Int32} {w hr nb nr ng gv nt nh : Nat} (h : I_num z w hr nb nr ng gv nt nh) (hf : f ∉ [704, 705, 647, 706, 646, 711, 132, 717, 133, 727, 134, 739, 257, 753, 194]) : I_num (zsF z f a v) w hr nb nr ng gv nt nh := by
  have e : ∀ g, g ∈ [704, 705, 647, 706, 646, 711, 132, 717, 133, 727, 134, 739, 257, 753, 194] → zF (zsF z f a v) g = zF z g := fun g hg => eF_n z f a v (fun q => hf (q ▸ hg))
  simp only [I_num] at h ⊢
  simp only [e 704 (by decide), e 705 (by decide), e 647 (by decide), e 706 (by decide), e 646 (by decide), e 711 (by decide), e 132 (by decide), e 717 (by decide), e 133 (by decide), e 727 (by decide), e 134 (by decide), e 739 (by decide), e 257 (by decide), e 753 (by decide), e 194 (by decide)]
  exact h
theorem I_num.sG {z : Hp} {f a : Nat} {v : Option Nat} {w hr nb nr ng gv nt nh : Nat} (h : I_num z w hr nb nr ng gv nt nh) : I_num (zsG z f a v) w hr nb nr ng gv nt nh := h
theorem I_num.sA {z : Hp} {f a : Nat} {v : Int32} {w hr nb nr ng gv nt nh : Nat} (h : I_num z w hr nb nr ng gv nt nh) : I_num (zsA z f a v) w hr nb nr ng gv nt nh := h
theorem I_num.sJ {z : Hp} {f a : Nat} {v : Int64} {w hr nb nr ng gv nt nh : Nat} (h : I_num z w hr nb nr ng gv nt nh) : I_num (zsJ z f a v) w hr nb nr ng gv nt nh := h
theorem I_num.sR {z : Hp} {f a : Nat} {v : Option Nat} {w hr nb nr ng gv nt nh : Nat} (h : I_num z w hr nb nr ng gv nt nh) : I_num (zsR z f a v) w hr nb nr ng gv nt nh := h
theorem I_num.al {z : Hp} {k n : Nat} {w hr nb nr ng gv nt nh : Nat} (h : I_num z w hr nb nr ng gv nt nh) (hS : Sh z) : I_num (zal z k n) w hr nb nr ng gv nt nh := by
  have hne : ∀ a, a < 48 → a ≠ zn z := fun a ha => ne_n hS ha
  simp only [I_num] at h ⊢
  simp only [al_F, va_up_ne _ _ (hne 0 (by decide)), va_up_ne _ _ (hne 1 (by decide)), va_up_ne _ _ (hne 9 (by decide)), va_up_ne _ _ (hne 11 (by decide)), va_up_ne _ _ (hne 13 (by decide)), va_up_ne _ _ (hne 17 (by decide))]
  exact h
theorem I_sc.sF {z : Hp} {f a : Nat} {v : Int32} (h : I_sc z ) (hf : f ∉ [718, 648, 651, 719, 649, 744, 650, 745, 579, 743]) : I_sc (zsF z f a v)  := by
  have e : ∀ g, g ∈ [718, 648, 651, 719, 649, 744, 650, 745, 579, 743] → zF (zsF z f a v) g = zF z g := fun g hg => eF_n z f a v (fun q => hf (q ▸ hg))
  simp only [I_sc] at h ⊢
  simp only [e 718 (by decide), e 648 (by decide), e 651 (by decide), e 719 (by decide), e 649 (by decide), e 744 (by decide), e 650 (by decide), e 745 (by decide), e 579 (by decide), e 743 (by decide)]
  exact h
theorem I_sc.sG {z : Hp} {f a : Nat} {v : Option Nat} (h : I_sc z ) : I_sc (zsG z f a v)  := h
theorem I_sc.sA {z : Hp} {f a : Nat} {v : Int32} (h : I_sc z ) : I_sc (zsA z f a v)  := h
theorem I_sc.sJ {z : Hp} {f a : Nat} {v : Int64} (h : I_sc z ) : I_sc (zsJ z f a v)  := h
theorem I_sc.sR {z : Hp} {f a : Nat} {v : Option Nat} (h : I_sc z ) : I_sc (zsR z f a v)  := h
theorem I_sc.al {z : Hp} {k n : Nat} (h : I_sc z ) (hS : Sh z) : I_sc (zal z k n)  := by
  have hne : ∀ a, a < 48 → a ≠ zn z := fun a ha => ne_n hS ha
  simp only [I_sc] at h ⊢
  simp only [al_F, va_up_ne _ _ (hne 0 (by decide)), va_up_ne _ _ (hne 1 (by decide)), va_up_ne _ _ (hne 9 (by decide)), va_up_ne _ _ (hne 11 (by decide)), va_up_ne _ _ (hne 13 (by decide)), va_up_ne _ _ (hne 17 (by decide))]
  exact h
theorem I_st.sF {z : Hp} {f a : Nat} {v : Int32} (h : I_st z ) (hf : f ∉ [746, 747, 748, 749, 195, 196, 197, 198, 199, 750]) : I_st (zsF z f a v)  := by
  have e : ∀ g, g ∈ [746, 747, 748, 749, 195, 196, 197, 198, 199, 750] → zF (zsF z f a v) g = zF z g := fun g hg => eF_n z f a v (fun q => hf (q ▸ hg))
  simp only [I_st] at h ⊢
  simp only [e 746 (by decide), e 747 (by decide), e 748 (by decide), e 749 (by decide), e 195 (by decide), e 196 (by decide), e 197 (by decide), e 198 (by decide), e 199 (by decide), e 750 (by decide)]
  exact h
theorem I_st.sG {z : Hp} {f a : Nat} {v : Option Nat} (h : I_st z ) : I_st (zsG z f a v)  := h
theorem I_st.sA {z : Hp} {f a : Nat} {v : Int32} (h : I_st z ) : I_st (zsA z f a v)  := h
theorem I_st.sJ {z : Hp} {f a : Nat} {v : Int64} (h : I_st z ) : I_st (zsJ z f a v)  := h
theorem I_st.sR {z : Hp} {f a : Nat} {v : Option Nat} (h : I_st z ) : I_st (zsR z f a v)  := h
theorem I_st.al {z : Hp} {k n : Nat} (h : I_st z ) (hS : Sh z) : I_st (zal z k n)  := by
  have hne : ∀ a, a < 48 → a ≠ zn z := fun a ha => ne_n hS ha
  simp only [I_st] at h ⊢
  simp only [al_F, va_up_ne _ _ (hne 0 (by decide)), va_up_ne _ _ (hne 1 (by decide)), va_up_ne _ _ (hne 9 (by decide)), va_up_ne _ _ (hne 11 (by decide)), va_up_ne _ _ (hne 13 (by decide)), va_up_ne _ _ (hne 17 (by decide))]
  exact h
theorem I_hv.sF {z : Hp} {f a : Nat} {v : Int32} {w nh : Nat} (h : I_hv z w nh) : I_hv (zsF z f a v) w nh := h
theorem I_hv.sG {z : Hp} {f a : Nat} {v : Option Nat} {w nh : Nat} (h : I_hv z w nh) : I_hv (zsG z f a v) w nh := h
theorem I_hv.sA {z : Hp} {f a : Nat} {v : Int32} {w nh : Nat} (h : I_hv z w nh) (hf : f ∉ [46, 47, 14, 15]) : I_hv (zsA z f a v) w nh := by
  have e : ∀ g, g ∈ [46, 47, 14, 15] → zA (zsA z f a v) g = zA z g := fun g hg => eA_n z f a v (fun q => hf (q ▸ hg))
  simp only [I_hv] at h ⊢
  simp only [e 46 (by decide), e 47 (by decide), e 14 (by decide), e 15 (by decide)]
  exact h
theorem I_hv.sJ {z : Hp} {f a : Nat} {v : Int64} {w nh : Nat} (h : I_hv z w nh) : I_hv (zsJ z f a v) w nh := h
theorem I_hv.sR {z : Hp} {f a : Nat} {v : Option Nat} {w nh : Nat} (h : I_hv z w nh) : I_hv (zsR z f a v) w nh := h
theorem I_hv.al {z : Hp} {k n : Nat} {w nh : Nat} (h : I_hv z w nh) (hS : Sh z) : I_hv (zal z k n) w nh := by
  have hne : ∀ a, a < 48 → a ≠ zn z := fun a ha => ne_n hS ha
  simp only [I_hv] at h ⊢
  simp only [al_A z k n (hne 46 (by decide)), al_A z k n (hne 47 (by decide)), al_A z k n (hne 14 (by decide)), al_A z k n (hne 15 (by decide))]
  exact h
theorem I_rec.sF {z : Hp} {f a : Nat} {v : Int32} {t nb nr gv : Nat} (h : I_rec z t nb nr gv) (hf : f ∉ [768, 769, 770, 771, 324, 325, 326, 327, 68, 69, 70, 71, 72, 452, 453, 454, 455, 456, 457]) : I_rec (zsF z f a v) t nb nr gv := by
  have e : ∀ g, g ∈ [768, 769, 770, 771, 324, 325, 326, 327, 68, 69, 70, 71, 72, 452, 453, 454, 455, 456, 457] → zF (zsF z f a v) g = zF z g := fun g hg => eF_n z f a v (fun q => hf (q ▸ hg))
  simp only [I_rec, recOf, lotOf, batchOf, searchOf] at h ⊢
  simp only [e 768 (by decide), e 769 (by decide), e 770 (by decide), e 771 (by decide), e 324 (by decide), e 325 (by decide), e 326 (by decide), e 327 (by decide), e 68 (by decide), e 69 (by decide), e 70 (by decide), e 71 (by decide), e 72 (by decide), e 452 (by decide), e 453 (by decide), e 454 (by decide), e 455 (by decide), e 456 (by decide), e 457 (by decide)]
  exact h
theorem I_rec.sG {z : Hp} {f a : Nat} {v : Option Nat} {t nb nr gv : Nat} (h : I_rec z t nb nr gv) : I_rec (zsG z f a v) t nb nr gv := h
theorem I_rec.sA {z : Hp} {f a : Nat} {v : Int32} {t nb nr gv : Nat} (h : I_rec z t nb nr gv) (hf : f ∉ [18, 19, 20, 21, 22, 23, 24, 25, 27, 28, 29, 30, 31, 34]) : I_rec (zsA z f a v) t nb nr gv := by
  have e : ∀ g, g ∈ [18, 19, 20, 21, 22, 23, 24, 25, 27, 28, 29, 30, 31, 34] → zA (zsA z f a v) g = zA z g := fun g hg => eA_n z f a v (fun q => hf (q ▸ hg))
  simp only [I_rec, recOf, lotOf, batchOf, searchOf] at h ⊢
  simp only [e 18 (by decide), e 19 (by decide), e 20 (by decide), e 21 (by decide), e 22 (by decide), e 23 (by decide), e 24 (by decide), e 25 (by decide), e 27 (by decide), e 28 (by decide), e 29 (by decide), e 30 (by decide), e 31 (by decide), e 34 (by decide)]
  exact h
theorem I_rec.sJ {z : Hp} {f a : Nat} {v : Int64} {t nb nr gv : Nat} (h : I_rec z t nb nr gv) : I_rec (zsJ z f a v) t nb nr gv := h
theorem I_rec.sR {z : Hp} {f a : Nat} {v : Option Nat} {t nb nr gv : Nat} (h : I_rec z t nb nr gv) (hf : f ∉ [2]) : I_rec (zsR z f a v) t nb nr gv := by
  have e : ∀ g, g ∈ [2] → zR (zsR z f a v) g = zR z g := fun g hg => eR_n z f a v (fun q => hf (q ▸ hg))
  simp only [I_rec, recOf, lotOf, batchOf, searchOf] at h ⊢
  simp only [e 2 (by decide)]
  exact h
theorem I_bk.sF {z : Hp} {f a : Nat} {v : Int32} {nb nr : Nat} (h : I_bk z nb nr) (hf : f ∉ [0, 1, 2, 3, 4, 5, 6]) : I_bk (zsF z f a v) nb nr := by
  have e : ∀ g, g ∈ [0, 1, 2, 3, 4, 5, 6] → zF (zsF z f a v) g = zF z g := fun g hg => eF_n z f a v (fun q => hf (q ▸ hg))
  simp only [I_bk, bakOf] at h ⊢
  simp only [e 0 (by decide), e 1 (by decide), e 2 (by decide), e 3 (by decide), e 4 (by decide), e 5 (by decide), e 6 (by decide)]
  exact h
theorem I_bk.sG {z : Hp} {f a : Nat} {v : Option Nat} {nb nr : Nat} (h : I_bk z nb nr) (hf : f ∉ [7]) : I_bk (zsG z f a v) nb nr := by
  have e : ∀ g, g ∈ [7] → zG (zsG z f a v) g = zG z g := fun g hg => eG_n z f a v (fun q => hf (q ▸ hg))
  simp only [I_bk, bakOf] at h ⊢
  simp only [e 7 (by decide)]
  exact h
theorem I_bk.sA {z : Hp} {f a : Nat} {v : Int32} {nb nr : Nat} (h : I_bk z nb nr) (hf : f ∉ [18, 21, 25, 35, 36, 37, 38]) : I_bk (zsA z f a v) nb nr := by
  have e : ∀ g, g ∈ [18, 21, 25, 35, 36, 37, 38] → zA (zsA z f a v) g = zA z g := fun g hg => eA_n z f a v (fun q => hf (q ▸ hg))
  simp only [I_bk, bakOf] at h ⊢
  simp only [e 18 (by decide), e 21 (by decide), e 25 (by decide), e 35 (by decide), e 36 (by decide), e 37 (by decide), e 38 (by decide)]
  exact h
theorem I_bk.sJ {z : Hp} {f a : Nat} {v : Int64} {nb nr : Nat} (h : I_bk z nb nr) : I_bk (zsJ z f a v) nb nr := h
theorem I_bk.sR {z : Hp} {f a : Nat} {v : Option Nat} {nb nr : Nat} (h : I_bk z nb nr) (hf : f ∉ [2, 16]) : I_bk (zsR z f a v) nb nr := by
  have e : ∀ g, g ∈ [2, 16] → zR (zsR z f a v) g = zR z g := fun g hg => eR_n z f a v (fun q => hf (q ▸ hg))
  simp only [I_bk, bakOf] at h ⊢
  simp only [e 2 (by decide), e 16 (by decide)]
  exact h
theorem I_gr.sF {z : Hp} {f a : Nat} {v : Int32} {nr ng : Nat} (h : I_gr z nr ng) : I_gr (zsF z f a v) nr ng := h
theorem I_gr.sG {z : Hp} {f a : Nat} {v : Option Nat} {nr ng : Nat} (h : I_gr z nr ng) : I_gr (zsG z f a v) nr ng := h
theorem I_gr.sA {z : Hp} {f a : Nat} {v : Int32} {nr ng : Nat} (h : I_gr z nr ng) (hf : f ∉ [26, 18, 24]) : I_gr (zsA z f a v) nr ng := by
  have e : ∀ g, g ∈ [26, 18, 24] → zA (zsA z f a v) g = zA z g := fun g hg => eA_n z f a v (fun q => hf (q ▸ hg))
  simp only [I_gr] at h ⊢
  simp only [e 26 (by decide), e 18 (by decide), e 24 (by decide)]
  exact h
theorem I_gr.sJ {z : Hp} {f a : Nat} {v : Int64} {nr ng : Nat} (h : I_gr z nr ng) : I_gr (zsJ z f a v) nr ng := h
theorem I_gr.sR {z : Hp} {f a : Nat} {v : Option Nat} {nr ng : Nat} (h : I_gr z nr ng) (hf : f ∉ [2, 3]) : I_gr (zsR z f a v) nr ng := by
  have e : ∀ g, g ∈ [2, 3] → zR (zsR z f a v) g = zR z g := fun g hg => eR_n z f a v (fun q => hf (q ▸ hg))
  simp only [I_gr] at h ⊢
  simp only [e 2 (by decide), e 3 (by decide)]
  exact h
theorem I_gr.al {z : Hp} {k n : Nat} {nr ng : Nat} (h : I_gr z nr ng) (hS : Sh z) : I_gr (zal z k n) nr ng := by
  have hne : ∀ a, a < 48 → a ≠ zn z := fun a ha => ne_n hS ha
  simp only [I_gr] at h ⊢
  simp only [al_A z k n (hne 26 (by decide)), al_A z k n (hne 18 (by decide)), al_A z k n (hne 24 (by decide)), al_R z k n (hne 2 (by decide)), al_R z k n (hne 3 (by decide))]
  exact h
theorem I_gf.sF {z : Hp} {f a : Nat} {v : Int32} {nr gv : Nat} (h : I_gf z nr gv) : I_gf (zsF z f a v) nr gv := h
theorem I_gf.sG {z : Hp} {f a : Nat} {v : Option Nat} {nr gv : Nat} (h : I_gf z nr gv) : I_gf (zsG z f a v) nr gv := h
theorem I_gf.sA {z : Hp} {f a : Nat} {v : Int32} {nr gv : Nat} (h : I_gf z nr gv) (hf : f ∉ [18, 24, 25, 4, 5, 32, 33]) : I_gf (zsA z f a v) nr gv := by
  have e : ∀ g, g ∈ [18, 24, 25, 4, 5, 32, 33] → zA (zsA z f a v) g = zA z g := fun g hg => eA_n z f a v (fun q => hf (q ▸ hg))
  simp only [I_gf] at h ⊢
  simp only [e 18 (by decide), e 24 (by decide), e 25 (by decide), e 4 (by decide), e 5 (by decide), e 32 (by decide), e 33 (by decide)]
  exact h
theorem I_gf.sJ {z : Hp} {f a : Nat} {v : Int64} {nr gv : Nat} (h : I_gf z nr gv) : I_gf (zsJ z f a v) nr gv := h
theorem I_gf.sR {z : Hp} {f a : Nat} {v : Option Nat} {nr gv : Nat} (h : I_gf z nr gv) : I_gf (zsR z f a v) nr gv := h
theorem I_gf.al {z : Hp} {k n : Nat} {nr gv : Nat} (h : I_gf z nr gv) (hS : Sh z) : I_gf (zal z k n) nr gv := by
  have hne : ∀ a, a < 48 → a ≠ zn z := fun a ha => ne_n hS ha
  simp only [I_gf] at h ⊢
  simp only [al_A z k n (hne 18 (by decide)), al_A z k n (hne 24 (by decide)), al_A z k n (hne 25 (by decide)), al_A z k n (hne 4 (by decide)), al_A z k n (hne 5 (by decide)), al_A z k n (hne 32 (by decide)), al_A z k n (hne 33 (by decide))]
  exact h
theorem I_mk.sF {z : Hp} {f a : Nat} {v : Int32} {nr : Nat} (h : I_mk z nr) : I_mk (zsF z f a v) nr := h
theorem I_mk.sG {z : Hp} {f a : Nat} {v : Option Nat} {nr : Nat} (h : I_mk z nr) : I_mk (zsG z f a v) nr := h
theorem I_mk.sA {z : Hp} {f a : Nat} {v : Int32} {nr : Nat} (h : I_mk z nr) (hf : f ∉ [18, 19, 22, 23]) : I_mk (zsA z f a v) nr := by
  have e : ∀ g, g ∈ [18, 19, 22, 23] → zA (zsA z f a v) g = zA z g := fun g hg => eA_n z f a v (fun q => hf (q ▸ hg))
  simp only [I_mk] at h ⊢
  simp only [e 18 (by decide), e 19 (by decide), e 22 (by decide), e 23 (by decide)]
  exact h
theorem I_mk.sJ {z : Hp} {f a : Nat} {v : Int64} {nr : Nat} (h : I_mk z nr) (hf : f ∉ [7, 8]) : I_mk (zsJ z f a v) nr := by
  have e : ∀ g, g ∈ [7, 8] → zJ (zsJ z f a v) g = zJ z g := fun g hg => eJ_n z f a v (fun q => hf (q ▸ hg))
  simp only [I_mk] at h ⊢
  simp only [e 7 (by decide), e 8 (by decide)]
  exact h
theorem I_mk.sR {z : Hp} {f a : Nat} {v : Option Nat} {nr : Nat} (h : I_mk z nr) : I_mk (zsR z f a v) nr := h
theorem I_mk.al {z : Hp} {k n : Nat} {nr : Nat} (h : I_mk z nr) (hS : Sh z) : I_mk (zal z k n) nr := by
  have hne : ∀ a, a < 48 → a ≠ zn z := fun a ha => ne_n hS ha
  simp only [I_mk] at h ⊢
  simp only [al_A z k n (hne 18 (by decide)), al_A z k n (hne 19 (by decide)), al_A z k n (hne 22 (by decide)), al_A z k n (hne 23 (by decide)), al_J z k n (hne 7 (by decide)), al_J z k n (hne 8 (by decide))]
  exact h
theorem I_tx.sF {z : Hp} {f a : Nat} {v : Int32} {nt : Nat} (h : I_tx z nt) (hf : f ∉ [512, 513, 514, 518]) : I_tx (zsF z f a v) nt := by
  have e : ∀ g, g ∈ [512, 513, 514, 518] → zF (zsF z f a v) g = zF z g := fun g hg => eF_n z f a v (fun q => hf (q ▸ hg))
  simp only [I_tx, txtOf] at h ⊢
  simp only [e 512 (by decide), e 513 (by decide), e 514 (by decide), e 518 (by decide)]
  exact h
theorem I_tx.sG {z : Hp} {f a : Nat} {v : Option Nat} {nt : Nat} (h : I_tx z nt) (hf : f ∉ [515, 516, 517]) : I_tx (zsG z f a v) nt := by
  have e : ∀ g, g ∈ [515, 516, 517] → zG (zsG z f a v) g = zG z g := fun g hg => eG_n z f a v (fun q => hf (q ▸ hg))
  simp only [I_tx, txtOf] at h ⊢
  simp only [e 515 (by decide), e 516 (by decide), e 517 (by decide)]
  exact h
theorem I_tx.sA {z : Hp} {f a : Nat} {v : Int32} {nt : Nat} (h : I_tx z nt) (hf : f ∉ [39, 40, 41, 42, 43, 44]) (hp : f < 48) : I_tx (zsA z f a v) nt := by
  have e : ∀ g, g ∈ [39, 40, 41, 42, 43, 44] → zA (zsA z f a v) g = zA z g := fun g hg => eA_n z f a v (fun q => hf (q ▸ hg))
  obtain ⟨h1, h2, h3⟩ := h
  refine ⟨fun t ht => ?_, h2, fun t ht => by rw [e 44 (by decide)]; exact h3 t ht⟩
  obtain ⟨a0, k1, k2⟩ := h1 t ht
  refine ⟨a0, k1, ?_⟩
  have e1 : zA (zsA z f a v) (a0 + 1) = zA z (a0 + 1) := eA_n z f a v (by have := k2.1; omega)
  have e2 : zA (zsA z f a v) (a0 + 2) = zA z (a0 + 2) := eA_n z f a v (by have := k2.1; omega)
  have e3 : zA (zsA z f a v) (a0 + 3) = zA z (a0 + 3) := eA_n z f a v (by have := k2.1; omega)
  unfold txtOf at k2 ⊢
  simp only [e1, e2, e3, e 39 (by decide), e 40 (by decide), e 41 (by decide), e 42 (by decide), e 43 (by decide), e 44 (by decide)]
  exact k2
theorem I_tx.sJ {z : Hp} {f a : Nat} {v : Int64} {nt : Nat} (h : I_tx z nt) : I_tx (zsJ z f a v) nt := h
theorem I_tx.sR {z : Hp} {f a : Nat} {v : Option Nat} {nt : Nat} (h : I_tx z nt) (hf : f ∉ [10]) : I_tx (zsR z f a v) nt := by
  have e : ∀ g, g ∈ [10] → zR (zsR z f a v) g = zR z g := fun g hg => eR_n z f a v (fun q => hf (q ▸ hg))
  simp only [I_tx, txtOf] at h ⊢
  simp only [e 10 (by decide)]
  exact h
theorem I_tn.sF {z : Hp} {f a : Nat} {v : Int32} {nb : Nat} (h : I_tn z nb) (hf : f ∉ [741, 742, 577, 578]) : I_tn (zsF z f a v) nb := by
  have e : ∀ g, g ∈ [741, 742, 577, 578] → zF (zsF z f a v) g = zF z g := fun g hg => eF_n z f a v (fun q => hf (q ▸ hg))
  simp only [I_tn] at h ⊢
  simp only [e 741 (by decide), e 742 (by decide), e 577 (by decide), e 578 (by decide)]
  exact h
theorem I_tn.sG {z : Hp} {f a : Nat} {v : Option Nat} {nb : Nat} (h : I_tn z nb) : I_tn (zsG z f a v) nb := h
theorem I_tn.sA {z : Hp} {f a : Nat} {v : Int32} {nb : Nat} (h : I_tn z nb) (hf : f ∉ [12, 45]) : I_tn (zsA z f a v) nb := by
  have e : ∀ g, g ∈ [12, 45] → zA (zsA z f a v) g = zA z g := fun g hg => eA_n z f a v (fun q => hf (q ▸ hg))
  simp only [I_tn] at h ⊢
  simp only [e 12 (by decide), e 45 (by decide)]
  exact h
theorem I_tn.sJ {z : Hp} {f a : Nat} {v : Int64} {nb : Nat} (h : I_tn z nb) : I_tn (zsJ z f a v) nb := h
theorem I_tn.sR {z : Hp} {f a : Nat} {v : Option Nat} {nb : Nat} (h : I_tn z nb) : I_tn (zsR z f a v) nb := h
theorem I_tn.al {z : Hp} {k n : Nat} {nb : Nat} (h : I_tn z nb) (hS : Sh z) : I_tn (zal z k n) nb := by
  have hne : ∀ a, a < 48 → a ≠ zn z := fun a ha => ne_n hS ha
  simp only [I_tn] at h ⊢
  simp only [al_A z k n (hne 12 (by decide)), al_A z k n (hne 45 (by decide)), al_F, va_up_ne _ _ (hne 0 (by decide)), va_up_ne _ _ (hne 1 (by decide)), va_up_ne _ _ (hne 9 (by decide)), va_up_ne _ _ (hne 11 (by decide)), va_up_ne _ _ (hne 13 (by decide)), va_up_ne _ _ (hne 17 (by decide))]
  exact h
theorem recOf.al {z : Hp} {k n t nb gv i a : Nat} (h : recOf z t nb gv i a) (hS : Sh z) : recOf (zal z k n) t nb gv i a := by
  have hne : ∀ a, a < 48 → a ≠ zn z := fun a ha => ne_n hS ha
  have ha : a ≠ zn z := Nat.ne_of_lt h.2.1
  simp only [recOf, lotOf, batchOf, searchOf] at h ⊢
  simp only [al_n, al_K, al_F, va_up_ne _ _ ha, al_A z k n (hne 18 (by decide)), al_A z k n (hne 19 (by decide)), al_A z k n (hne 20 (by decide)), al_A z k n (hne 21 (by decide)), al_A z k n (hne 22 (by decide)), al_A z k n (hne 23 (by decide)), al_A z k n (hne 24 (by decide)), al_A z k n (hne 25 (by decide)), al_A z k n (hne 27 (by decide)), al_A z k n (hne 28 (by decide)), al_A z k n (hne 29 (by decide)), al_A z k n (hne 30 (by decide)), al_A z k n (hne 31 (by decide)), al_A z k n (hne 34 (by decide))]
  exact ⟨h.1, Nat.lt_succ_of_lt h.2.1, h.2.2⟩
theorem I_rec.al {z : Hp} {k n t nb nr gv : Nat} (h : I_rec z t nb nr gv) (hS : Sh z) : I_rec (zal z k n) t nb nr gv := by
  have hne : ∀ a, a < 48 → a ≠ zn z := fun a ha => ne_n hS ha
  obtain ⟨h1, h2, h3⟩ := h
  unfold I_rec
  simp only [al_R z k n (hne 2 (by decide)), al_A z k n (hne 24 (by decide)), al_A z k n (hne 25 (by decide))]
  exact ⟨fun i hi => by obtain ⟨a, k1, k2⟩ := h1 i hi; exact ⟨a, k1, k2.al hS⟩, h2, h3⟩
theorem bakOf.al {z : Hp} {k n nr j a : Nat} (h : bakOf z nr j a) (hS : Sh z) : bakOf (zal z k n) nr j a := by
  have hne : ∀ a, a < 48 → a ≠ zn z := fun a ha => ne_n hS ha
  have ha : a ≠ zn z := Nat.ne_of_lt h.2.1
  simp only [bakOf] at h ⊢
  simp only [al_n, al_K, al_F, al_G, va_up_ne _ _ ha, al_A z k n (hne 18 (by decide)), al_A z k n (hne 21 (by decide)), al_A z k n (hne 25 (by decide)), al_A z k n (hne 35 (by decide)), al_A z k n (hne 36 (by decide)), al_A z k n (hne 37 (by decide)), al_A z k n (hne 38 (by decide)), al_R z k n (hne 2 (by decide))]
  exact ⟨h.1, Nat.lt_succ_of_lt h.2.1, h.2.2⟩
theorem I_bk.al {z : Hp} {k n nb nr : Nat} (h : I_bk z nb nr) (hS : Sh z) : I_bk (zal z k n) nb nr := by
  have hne : ∀ a, a < 48 → a ≠ zn z := fun a ha => ne_n hS ha
  obtain ⟨h1, h2, h3⟩ := h
  unfold I_bk
  simp only [al_R z k n (hne 16 (by decide)), al_A z k n (hne 35 (by decide)), al_A z k n (hne 36 (by decide)), al_A z k n (hne 37 (by decide))]
  exact ⟨fun i hi => by obtain ⟨a, k1, k2⟩ := h1 i hi; exact ⟨a, k1, k2.al hS⟩, h2, h3⟩
theorem txtOf.al {z : Hp} {k n t a : Nat} (h : txtOf z t a) (hS : Sh z) : txtOf (zal z k n) t a := by
  have hne : ∀ a, a < 48 → a ≠ zn z := fun a ha => ne_n hS ha
  have hb := h.2.1
  have ha : a ≠ zn z := by omega
  have ha1 : a + 1 ≠ zn z := by omega
  have ha2 : a + 2 ≠ zn z := by omega
  have ha3 : a + 3 ≠ zn z := by omega
  simp only [txtOf] at h ⊢
  simp only [al_n, al_K, al_L, al_F, al_G, va_up_ne _ _ ha, va_up_ne _ _ ha1, va_up_ne _ _ ha2, va_up_ne _ _ ha3, al_A z k n ha1, al_A z k n ha2, al_A z k n ha3, al_A z k n (hne 39 (by decide)), al_A z k n (hne 40 (by decide)), al_A z k n (hne 41 (by decide)), al_A z k n (hne 42 (by decide)), al_A z k n (hne 43 (by decide)), al_A z k n (hne 44 (by decide))]
  exact ⟨h.1, Nat.lt_succ_of_lt h.2.1, h.2.2⟩
theorem I_tx.al {z : Hp} {k n nt : Nat} (h : I_tx z nt) (hS : Sh z) : I_tx (zal z k n) nt := by
  have hne : ∀ a, a < 48 → a ≠ zn z := fun a ha => ne_n hS ha
  obtain ⟨h1, h2, h3⟩ := h
  unfold I_tx
  simp only [al_R z k n (hne 10 (by decide)), al_A z k n (hne 44 (by decide))]
  exact ⟨fun i hi => by obtain ⟨a, k1, k2⟩ := h1 i hi; exact ⟨a, k1, k2.al hS⟩, h2, h3⟩
