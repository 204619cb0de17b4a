-- THE START
theorem bd_c {α β : Type} {x y : α} {k : α → β} {r : β} (h : x = y) (h2 : k y = r) : bd x k = r := by subst h; exact h2
theorem bo_c {α β : Type} {x : Option α} {y : α} {k : α → Option β} {r : Option β} (h : x = some y) (h2 : k y = r) : bo x k = r := by rw [h]; exact h2
def Zr (z : Hp) : Prop := (∀ a i, zA z a i = 0) ∧ (∀ a i, zJ z a i = 0) ∧ (∀ a i, zR z a i = none)
theorem Zr.al {z : Hp} {k n : Nat} (h : Zr z) : Zr (zal z k n) := by
  obtain ⟨h1, h2, h3⟩ := h
  refine ⟨fun a i => ?_, fun a i => ?_, fun a i => ?_⟩
  · by_cases e : a = zn z
    · rw [e, al_As]
    · rw [al_A _ _ _ e]; exact h1 a i
  · by_cases e : a = zn z
    · rw [e, al_Js]
    · rw [al_J _ _ _ e]; exact h2 a i
  · by_cases e : a = zn z
    · rw [e, al_Rs]
    · rw [al_R _ _ _ e]; exact h3 a i
theorem Zr.sF {z : Hp} {f a : Nat} {v : Int32} (h : Zr z) : Zr (zsF z f a v) := by unfold Zr at h ⊢; rw [eF_zA, eF_zJ, eF_zR]; exact h
theorem Zr.sG {z : Hp} {f a : Nat} {v : Option Nat} (h : Zr z) : Zr (zsG z f a v) := by unfold Zr at h ⊢; rw [eG_zA, eG_zJ, eG_zR]; exact h
theorem z_z00 : Zr z00 := ⟨fun _ _ => rfl, fun _ _ => rfl, fun _ _ => rfl⟩
def iq1 : Hp := zal z00 10 0
theorem n_iq1 : zn iq1 = 1 := (al_n _ _ _).trans (by rw [show zn z00 = 0 from rfl])
theorem z_iq1 : Zr iq1 := z_z00.al
def iq2 : Hp := zal iq1 2 0
theorem n_iq2 : zn iq2 = 2 := (al_n _ _ _).trans (by rw [n_iq1])
theorem z_iq2 : Zr iq2 := z_iq1.al
def iq3 : Hp := zal iq2 16 200
theorem n_iq3 : zn iq3 = 3 := (al_n _ _ _).trans (by rw [n_iq2])
theorem z_iq3 : Zr iq3 := z_iq2.al
def iq4 : Hp := zsG iq3 128 1 (some 2)
theorem n_iq4 : zn iq4 = 3 := (eG_zn _ _ _ _).trans n_iq3
theorem z_iq4 : Zr iq4 := z_iq3.sG
def iq5 : Hp := zal iq4 17 200
theorem n_iq5 : zn iq5 = 4 := (al_n _ _ _).trans (by rw [n_iq4])
theorem z_iq5 : Zr iq5 := z_iq4.al
def iq6 : Hp := zsG iq5 129 1 (some 3)
theorem n_iq6 : zn iq6 = 4 := (eG_zn _ _ _ _).trans n_iq5
theorem z_iq6 : Zr iq6 := z_iq5.sG
def iq7 : Hp := zal iq6 12 200
theorem n_iq7 : zn iq7 = 5 := (al_n _ _ _).trans (by rw [n_iq6])
theorem z_iq7 : Zr iq7 := z_iq6.al
def iq8 : Hp := zsG iq7 130 1 (some 4)
theorem n_iq8 : zn iq8 = 5 := (eG_zn _ _ _ _).trans n_iq7
theorem z_iq8 : Zr iq8 := z_iq7.sG
def iq9 : Hp := zal iq8 12 200
theorem n_iq9 : zn iq9 = 6 := (al_n _ _ _).trans (by rw [n_iq8])
theorem z_iq9 : Zr iq9 := z_iq8.al
def iq10 : Hp := zsG iq9 131 1 (some 5)
theorem n_iq10 : zn iq10 = 6 := (eG_zn _ _ _ _).trans n_iq9
theorem z_iq10 : Zr iq10 := z_iq9.sG
theorem e_X2 (N : Nat) : fX2_init N 1 iq2 = some iq10 := by
  unfold fX2_init
  refine bd_c (y := iq3) rfl ?_
  refine (gd_t (show 1 < zn iq3 ∧ zK iq3 1 = 2 by decide +kernel)).trans ?_
  refine bd_c (y := iq4) (congrArg (fun q => zsG iq3 128 1 (some q)) n_iq2) ?_
  refine bd_c (y := iq5) rfl ?_
  refine bd_c (y := iq6) (congrArg (fun q => zsG iq5 129 1 (some q)) n_iq4) ?_
  refine bd_c (y := iq7) rfl ?_
  refine bd_c (y := iq8) (congrArg (fun q => zsG iq7 130 1 (some q)) n_iq6) ?_
  refine bd_c (y := iq9) rfl ?_
  refine bd_c (y := iq10) (congrArg (fun q => zsG iq9 131 1 (some q)) n_iq8) ?_
  rfl
def iq11 : Hp := zsG iq10 640 0 (some 1)
theorem n_iq11 : zn iq11 = 6 := (eG_zn _ _ _ _).trans n_iq10
theorem z_iq11 : Zr iq11 := z_iq10.sG
def iq12 : Hp := zal iq11 6 0
theorem n_iq12 : zn iq12 = 7 := (al_n _ _ _).trans (by rw [n_iq11])
theorem z_iq12 : Zr iq12 := z_iq11.al
def iq13 : Hp := zal iq12 13 200
theorem n_iq13 : zn iq13 = 8 := (al_n _ _ _).trans (by rw [n_iq12])
theorem z_iq13 : Zr iq13 := z_iq12.al
def iq14 : Hp := zsG iq13 384 6 (some 7)
theorem n_iq14 : zn iq14 = 8 := (eG_zn _ _ _ _).trans n_iq13
theorem z_iq14 : Zr iq14 := z_iq13.sG
def iq15 : Hp := zal iq14 13 200
theorem n_iq15 : zn iq15 = 9 := (al_n _ _ _).trans (by rw [n_iq14])
theorem z_iq15 : Zr iq15 := z_iq14.al
def iq16 : Hp := zsG iq15 385 6 (some 8)
theorem n_iq16 : zn iq16 = 9 := (eG_zn _ _ _ _).trans n_iq15
theorem z_iq16 : Zr iq16 := z_iq15.sG
theorem e_X7 (N : Nat) : fX7_init N 6 iq12 = some iq16 := by
  unfold fX7_init
  refine bd_c (y := iq13) rfl ?_
  refine (gd_t (show 6 < zn iq13 ∧ zK iq13 6 = 6 by decide +kernel)).trans ?_
  refine bd_c (y := iq14) (congrArg (fun q => zsG iq13 384 6 (some q)) n_iq12) ?_
  refine bd_c (y := iq15) rfl ?_
  refine bd_c (y := iq16) (congrArg (fun q => zsG iq15 385 6 (some q)) n_iq14) ?_
  rfl
def iq17 : Hp := zsG iq16 641 0 (some 6)
theorem n_iq17 : zn iq17 = 9 := (eG_zn _ _ _ _).trans n_iq16
theorem z_iq17 : Zr iq17 := z_iq16.sG
def iq18 : Hp := zal iq17 4 0
theorem n_iq18 : zn iq18 = 10 := (al_n _ _ _).trans (by rw [n_iq17])
theorem z_iq18 : Zr iq18 := z_iq17.al
def iq19 : Hp := zal iq18 18 6
theorem n_iq19 : zn iq19 = 11 := (al_n _ _ _).trans (by rw [n_iq18])
theorem z_iq19 : Zr iq19 := z_iq18.al
def iq20 : Hp := zsG iq19 256 9 (some 10)
theorem n_iq20 : zn iq20 = 11 := (eG_zn _ _ _ _).trans n_iq19
theorem z_iq20 : Zr iq20 := z_iq19.sG
theorem e_X5 (N : Nat) : fX5_init N 9 iq18 = some iq20 := by
  unfold fX5_init
  refine bd_c (y := iq19) rfl ?_
  refine (gd_t (show 9 < zn iq19 ∧ zK iq19 9 = 4 by decide +kernel)).trans ?_
  refine bd_c (y := iq20) (congrArg (fun q => zsG iq19 256 9 (some q)) n_iq18) ?_
  rfl
def iq21 : Hp := zsG iq20 642 0 (some 9)
theorem n_iq21 : zn iq21 = 11 := (eG_zn _ _ _ _).trans n_iq20
theorem z_iq21 : Zr iq21 := z_iq20.sG
def iq22 : Hp := zal iq21 9 0
theorem n_iq22 : zn iq22 = 12 := (al_n _ _ _).trans (by rw [n_iq21])
theorem z_iq22 : Zr iq22 := z_iq21.al
def iq23 : Hp := zal iq22 12 8
theorem n_iq23 : zn iq23 = 13 := (al_n _ _ _).trans (by rw [n_iq22])
theorem z_iq23 : Zr iq23 := z_iq22.al
def iq24 : Hp := zsG iq23 576 11 (some 12)
theorem n_iq24 : zn iq24 = 13 := (eG_zn _ _ _ _).trans n_iq23
theorem z_iq24 : Zr iq24 := z_iq23.sG
def iq25 : Hp := zsF iq24 579 11 (1 : Int32)
theorem n_iq25 : zn iq25 = 13 := (eF_zn _ _ _ _).trans n_iq24
theorem z_iq25 : Zr iq25 := z_iq24.sF
theorem e_X10 (N : Nat) : fX10_init N 11 iq22 = some iq25 := by
  unfold fX10_init
  refine bd_c (y := iq23) rfl ?_
  refine (gd_t (show 11 < zn iq23 ∧ zK iq23 11 = 9 by decide +kernel)).trans ?_
  refine bd_c (y := iq24) (congrArg (fun q => zsG iq23 576 11 (some q)) n_iq22) ?_
  refine bd_c (y := iq25) rfl ?_
  rfl
def iq26 : Hp := zsG iq25 643 0 (some 11)
theorem n_iq26 : zn iq26 = 13 := (eG_zn _ _ _ _).trans n_iq25
theorem z_iq26 : Zr iq26 := z_iq25.sG
def iq27 : Hp := zal iq26 3 0
theorem n_iq27 : zn iq27 = 14 := (al_n _ _ _).trans (by rw [n_iq26])
theorem z_iq27 : Zr iq27 := z_iq26.al
def iq28 : Hp := zal iq27 12 200
theorem n_iq28 : zn iq28 = 15 := (al_n _ _ _).trans (by rw [n_iq27])
theorem z_iq28 : Zr iq28 := z_iq27.al
def iq29 : Hp := zsG iq28 192 13 (some 14)
theorem n_iq29 : zn iq29 = 15 := (eG_zn _ _ _ _).trans n_iq28
theorem z_iq29 : Zr iq29 := z_iq28.sG
def iq30 : Hp := zal iq29 12 200
theorem n_iq30 : zn iq30 = 16 := (al_n _ _ _).trans (by rw [n_iq29])
theorem z_iq30 : Zr iq30 := z_iq29.al
def iq31 : Hp := zsG iq30 193 13 (some 15)
theorem n_iq31 : zn iq31 = 16 := (eG_zn _ _ _ _).trans n_iq30
theorem z_iq31 : Zr iq31 := z_iq30.sG
def iq32 : Hp := zsF iq31 197 13 (100 : Int32)
theorem n_iq32 : zn iq32 = 16 := (eF_zn _ _ _ _).trans n_iq31
theorem z_iq32 : Zr iq32 := z_iq31.sF
def iq33 : Hp := zsF iq32 198 13 (100 : Int32)
theorem n_iq33 : zn iq33 = 16 := (eF_zn _ _ _ _).trans n_iq32
theorem z_iq33 : Zr iq33 := z_iq32.sF
theorem e_X4 (N : Nat) : fX4_init N 13 iq27 = some iq33 := by
  unfold fX4_init
  refine bd_c (y := iq28) rfl ?_
  refine (gd_t (show 13 < zn iq28 ∧ zK iq28 13 = 3 by decide +kernel)).trans ?_
  refine bd_c (y := iq29) (congrArg (fun q => zsG iq28 192 13 (some q)) n_iq27) ?_
  refine bd_c (y := iq30) rfl ?_
  refine bd_c (y := iq31) (congrArg (fun q => zsG iq30 193 13 (some q)) n_iq29) ?_
  refine bd_c (y := iq32) rfl ?_
  refine bd_c (y := iq33) rfl ?_
  rfl
def iq34 : Hp := zsG iq33 644 0 (some 13)
theorem n_iq34 : zn iq34 = 16 := (eG_zn _ _ _ _).trans n_iq33
theorem z_iq34 : Zr iq34 := z_iq33.sG
def iq35 : Hp := zal iq34 15 8
theorem n_iq35 : zn iq35 = 17 := (al_n _ _ _).trans (by rw [n_iq34])
theorem z_iq35 : Zr iq35 := z_iq34.al
def iq36 : Hp := zsG iq35 645 0 (some 16)
theorem n_iq36 : zn iq36 = 17 := (eG_zn _ _ _ _).trans n_iq35
theorem z_iq36 : Zr iq36 := z_iq35.sG
def iq37 : Hp := zsF iq36 648 0 (16 : Int32)
theorem n_iq37 : zn iq37 = 17 := (eF_zn _ _ _ _).trans n_iq36
theorem z_iq37 : Zr iq37 := z_iq36.sF
def iq38 : Hp := zsF iq37 649 0 (1 : Int32)
theorem n_iq38 : zn iq38 = 17 := (eF_zn _ _ _ _).trans n_iq37
theorem z_iq38 : Zr iq38 := z_iq37.sF
def iq39 : Hp := zsF iq38 650 0 (12 : Int32)
theorem n_iq39 : zn iq39 = 17 := (eF_zn _ _ _ _).trans n_iq38
theorem z_iq39 : Zr iq39 := z_iq38.sF
theorem e_X11 (N : Nat) : fX11_init N 0 iq1 = some iq39 := by
  unfold fX11_init
  refine bd_c (y := iq2) rfl ?_
  refine bo_c (y := iq10) (by rw [n_iq1]; exact e_X2 N) ?_
  refine (gd_t (show 0 < zn iq10 ∧ zK iq10 0 = 10 by decide +kernel)).trans ?_
  refine bd_c (y := iq11) (congrArg (fun q => zsG iq10 640 0 (some q)) n_iq1) ?_
  refine bd_c (y := iq12) rfl ?_
  refine bo_c (y := iq16) (by rw [n_iq11]; exact e_X7 N) ?_
  refine (gd_t (show 0 < zn iq16 ∧ zK iq16 0 = 10 by decide +kernel)).trans ?_
  refine bd_c (y := iq17) (congrArg (fun q => zsG iq16 641 0 (some q)) n_iq11) ?_
  refine bd_c (y := iq18) rfl ?_
  refine bo_c (y := iq20) (by rw [n_iq17]; exact e_X5 N) ?_
  refine (gd_t (show 0 < zn iq20 ∧ zK iq20 0 = 10 by decide +kernel)).trans ?_
  refine bd_c (y := iq21) (congrArg (fun q => zsG iq20 642 0 (some q)) n_iq17) ?_
  refine bd_c (y := iq22) rfl ?_
  refine bo_c (y := iq25) (by rw [n_iq21]; exact e_X10 N) ?_
  refine (gd_t (show 0 < zn iq25 ∧ zK iq25 0 = 10 by decide +kernel)).trans ?_
  refine bd_c (y := iq26) (congrArg (fun q => zsG iq25 643 0 (some q)) n_iq21) ?_
  refine bd_c (y := iq27) rfl ?_
  refine bo_c (y := iq33) (by rw [n_iq26]; exact e_X4 N) ?_
  refine (gd_t (show 0 < zn iq33 ∧ zK iq33 0 = 10 by decide +kernel)).trans ?_
  refine bd_c (y := iq34) (congrArg (fun q => zsG iq33 644 0 (some q)) n_iq26) ?_
  refine bd_c (y := iq35) rfl ?_
  refine bd_c (y := iq36) (congrArg (fun q => zsG iq35 645 0 (some q)) n_iq34) ?_
  refine bd_c (y := iq37) rfl ?_
  refine bd_c (y := iq38) rfl ?_
  refine bd_c (y := iq39) rfl ?_
  rfl
def iq40 : Hp := zal iq39 11 0
theorem n_iq40 : zn iq40 = 18 := (al_n _ _ _).trans (by rw [n_iq39])
theorem z_iq40 : Zr iq40 := z_iq39.al
def iq41 : Hp := zal iq40 12 200
theorem n_iq41 : zn iq41 = 19 := (al_n _ _ _).trans (by rw [n_iq40])
theorem z_iq41 : Zr iq41 := z_iq40.al
def iq42 : Hp := zsG iq41 707 17 (some 18)
theorem n_iq42 : zn iq42 = 19 := (eG_zn _ _ _ _).trans n_iq41
theorem z_iq42 : Zr iq42 := z_iq41.sG
def iq43 : Hp := zal iq42 12 200
theorem n_iq43 : zn iq43 = 20 := (al_n _ _ _).trans (by rw [n_iq42])
theorem z_iq43 : Zr iq43 := z_iq42.al
def iq44 : Hp := zsG iq43 708 17 (some 19)
theorem n_iq44 : zn iq44 = 20 := (eG_zn _ _ _ _).trans n_iq43
theorem z_iq44 : Zr iq44 := z_iq43.sG
def iq45 : Hp := zal iq44 12 200
theorem n_iq45 : zn iq45 = 21 := (al_n _ _ _).trans (by rw [n_iq44])
theorem z_iq45 : Zr iq45 := z_iq44.al
def iq46 : Hp := zsG iq45 709 17 (some 20)
theorem n_iq46 : zn iq46 = 21 := (eG_zn _ _ _ _).trans n_iq45
theorem z_iq46 : Zr iq46 := z_iq45.sG
def iq47 : Hp := zal iq46 12 200
theorem n_iq47 : zn iq47 = 22 := (al_n _ _ _).trans (by rw [n_iq46])
theorem z_iq47 : Zr iq47 := z_iq46.al
def iq48 : Hp := zsG iq47 710 17 (some 21)
theorem n_iq48 : zn iq48 = 22 := (eG_zn _ _ _ _).trans n_iq47
theorem z_iq48 : Zr iq48 := z_iq47.sG
def iq49 : Hp := zal iq48 12 200
theorem n_iq49 : zn iq49 = 23 := (al_n _ _ _).trans (by rw [n_iq48])
theorem z_iq49 : Zr iq49 := z_iq48.al
def iq50 : Hp := zsG iq49 712 17 (some 22)
theorem n_iq50 : zn iq50 = 23 := (eG_zn _ _ _ _).trans n_iq49
theorem z_iq50 : Zr iq50 := z_iq49.sG
def iq51 : Hp := zal iq50 12 200
theorem n_iq51 : zn iq51 = 24 := (al_n _ _ _).trans (by rw [n_iq50])
theorem z_iq51 : Zr iq51 := z_iq50.al
def iq52 : Hp := zsG iq51 713 17 (some 23)
theorem n_iq52 : zn iq52 = 24 := (eG_zn _ _ _ _).trans n_iq51
theorem z_iq52 : Zr iq52 := z_iq51.sG
def iq53 : Hp := zal iq52 14 200
theorem n_iq53 : zn iq53 = 25 := (al_n _ _ _).trans (by rw [n_iq52])
theorem z_iq53 : Zr iq53 := z_iq52.al
def iq54 : Hp := zsG iq53 714 17 (some 24)
theorem n_iq54 : zn iq54 = 25 := (eG_zn _ _ _ _).trans n_iq53
theorem z_iq54 : Zr iq54 := z_iq53.sG
def iq55 : Hp := zal iq54 12 200
theorem n_iq55 : zn iq55 = 26 := (al_n _ _ _).trans (by rw [n_iq54])
theorem z_iq55 : Zr iq55 := z_iq54.al
def iq56 : Hp := zsG iq55 715 17 (some 25)
theorem n_iq56 : zn iq56 = 26 := (eG_zn _ _ _ _).trans n_iq55
theorem z_iq56 : Zr iq56 := z_iq55.sG
def iq57 : Hp := zal iq56 12 200
theorem n_iq57 : zn iq57 = 27 := (al_n _ _ _).trans (by rw [n_iq56])
theorem z_iq57 : Zr iq57 := z_iq56.al
def iq58 : Hp := zsG iq57 716 17 (some 26)
theorem n_iq58 : zn iq58 = 27 := (eG_zn _ _ _ _).trans n_iq57
theorem z_iq58 : Zr iq58 := z_iq57.sG
def iq59 : Hp := zsF iq58 718 17 (16 : Int32)
theorem n_iq59 : zn iq59 = 27 := (eF_zn _ _ _ _).trans n_iq58
theorem z_iq59 : Zr iq59 := z_iq58.sF
def iq60 : Hp := zal iq59 12 200
theorem n_iq60 : zn iq60 = 28 := (al_n _ _ _).trans (by rw [n_iq59])
theorem z_iq60 : Zr iq60 := z_iq59.al
def iq61 : Hp := zsG iq60 720 17 (some 27)
theorem n_iq61 : zn iq61 = 28 := (eG_zn _ _ _ _).trans n_iq60
theorem z_iq61 : Zr iq61 := z_iq60.sG
def iq62 : Hp := zal iq61 12 200
theorem n_iq62 : zn iq62 = 29 := (al_n _ _ _).trans (by rw [n_iq61])
theorem z_iq62 : Zr iq62 := z_iq61.al
def iq63 : Hp := zsG iq62 721 17 (some 28)
theorem n_iq63 : zn iq63 = 29 := (eG_zn _ _ _ _).trans n_iq62
theorem z_iq63 : Zr iq63 := z_iq62.sG
def iq64 : Hp := zal iq63 12 200
theorem n_iq64 : zn iq64 = 30 := (al_n _ _ _).trans (by rw [n_iq63])
theorem z_iq64 : Zr iq64 := z_iq63.al
def iq65 : Hp := zsG iq64 722 17 (some 29)
theorem n_iq65 : zn iq65 = 30 := (eG_zn _ _ _ _).trans n_iq64
theorem z_iq65 : Zr iq65 := z_iq64.sG
def iq66 : Hp := zal iq65 12 200
theorem n_iq66 : zn iq66 = 31 := (al_n _ _ _).trans (by rw [n_iq65])
theorem z_iq66 : Zr iq66 := z_iq65.al
def iq67 : Hp := zsG iq66 723 17 (some 30)
theorem n_iq67 : zn iq67 = 31 := (eG_zn _ _ _ _).trans n_iq66
theorem z_iq67 : Zr iq67 := z_iq66.sG
def iq68 : Hp := zal iq67 12 200
theorem n_iq68 : zn iq68 = 32 := (al_n _ _ _).trans (by rw [n_iq67])
theorem z_iq68 : Zr iq68 := z_iq67.al
def iq69 : Hp := zsG iq68 724 17 (some 31)
theorem n_iq69 : zn iq69 = 32 := (eG_zn _ _ _ _).trans n_iq68
theorem z_iq69 : Zr iq69 := z_iq68.sG
def iq70 : Hp := zal iq69 12 600
theorem n_iq70 : zn iq70 = 33 := (al_n _ _ _).trans (by rw [n_iq69])
theorem z_iq70 : Zr iq70 := z_iq69.al
def iq71 : Hp := zsG iq70 725 17 (some 32)
theorem n_iq71 : zn iq71 = 33 := (eG_zn _ _ _ _).trans n_iq70
theorem z_iq71 : Zr iq71 := z_iq70.sG
def iq72 : Hp := zal iq71 12 600
theorem n_iq72 : zn iq72 = 34 := (al_n _ _ _).trans (by rw [n_iq71])
theorem z_iq72 : Zr iq72 := z_iq71.al
def iq73 : Hp := zsG iq72 726 17 (some 33)
theorem n_iq73 : zn iq73 = 34 := (eG_zn _ _ _ _).trans n_iq72
theorem z_iq73 : Zr iq73 := z_iq72.sG
def iq74 : Hp := zal iq73 12 1200
theorem n_iq74 : zn iq74 = 35 := (al_n _ _ _).trans (by rw [n_iq73])
theorem z_iq74 : Zr iq74 := z_iq73.al
def iq75 : Hp := zsG iq74 728 17 (some 34)
theorem n_iq75 : zn iq75 = 35 := (eG_zn _ _ _ _).trans n_iq74
theorem z_iq75 : Zr iq75 := z_iq74.sG
def iq76 : Hp := zal iq75 12 8
theorem n_iq76 : zn iq76 = 36 := (al_n _ _ _).trans (by rw [n_iq75])
theorem z_iq76 : Zr iq76 := z_iq75.al
def iq77 : Hp := zsG iq76 729 17 (some 35)
theorem n_iq77 : zn iq77 = 36 := (eG_zn _ _ _ _).trans n_iq76
theorem z_iq77 : Zr iq77 := z_iq76.sG
def iq78 : Hp := zal iq77 12 8
theorem n_iq78 : zn iq78 = 37 := (al_n _ _ _).trans (by rw [n_iq77])
theorem z_iq78 : Zr iq78 := z_iq77.al
def iq79 : Hp := zsG iq78 730 17 (some 36)
theorem n_iq79 : zn iq79 = 37 := (eG_zn _ _ _ _).trans n_iq78
theorem z_iq79 : Zr iq79 := z_iq78.sG
def iq80 : Hp := zal iq79 12 8
theorem n_iq80 : zn iq80 = 38 := (al_n _ _ _).trans (by rw [n_iq79])
theorem z_iq80 : Zr iq80 := z_iq79.al
def iq81 : Hp := zsG iq80 731 17 (some 37)
theorem n_iq81 : zn iq81 = 38 := (eG_zn _ _ _ _).trans n_iq80
theorem z_iq81 : Zr iq81 := z_iq80.sG
def iq82 : Hp := zal iq81 12 8
theorem n_iq82 : zn iq82 = 39 := (al_n _ _ _).trans (by rw [n_iq81])
theorem z_iq82 : Zr iq82 := z_iq81.al
def iq83 : Hp := zsG iq82 732 17 (some 38)
theorem n_iq83 : zn iq83 = 39 := (eG_zn _ _ _ _).trans n_iq82
theorem z_iq83 : Zr iq83 := z_iq82.sG
def iq84 : Hp := zal iq83 12 6
theorem n_iq84 : zn iq84 = 40 := (al_n _ _ _).trans (by rw [n_iq83])
theorem z_iq84 : Zr iq84 := z_iq83.al
def iq85 : Hp := zsG iq84 733 17 (some 39)
theorem n_iq85 : zn iq85 = 40 := (eG_zn _ _ _ _).trans n_iq84
theorem z_iq85 : Zr iq85 := z_iq84.sG
def iq86 : Hp := zal iq85 12 18
theorem n_iq86 : zn iq86 = 41 := (al_n _ _ _).trans (by rw [n_iq85])
theorem z_iq86 : Zr iq86 := z_iq85.al
def iq87 : Hp := zsG iq86 734 17 (some 40)
theorem n_iq87 : zn iq87 = 41 := (eG_zn _ _ _ _).trans n_iq86
theorem z_iq87 : Zr iq87 := z_iq86.sG
def iq88 : Hp := zal iq87 12 6
theorem n_iq88 : zn iq88 = 42 := (al_n _ _ _).trans (by rw [n_iq87])
theorem z_iq88 : Zr iq88 := z_iq87.al
def iq89 : Hp := zsG iq88 735 17 (some 41)
theorem n_iq89 : zn iq89 = 42 := (eG_zn _ _ _ _).trans n_iq88
theorem z_iq89 : Zr iq89 := z_iq88.sG
def iq90 : Hp := zal iq89 12 48
theorem n_iq90 : zn iq90 = 43 := (al_n _ _ _).trans (by rw [n_iq89])
theorem z_iq90 : Zr iq90 := z_iq89.al
def iq91 : Hp := zsG iq90 736 17 (some 42)
theorem n_iq91 : zn iq91 = 43 := (eG_zn _ _ _ _).trans n_iq90
theorem z_iq91 : Zr iq91 := z_iq90.sG
def iq92 : Hp := zal iq91 12 48
theorem n_iq92 : zn iq92 = 44 := (al_n _ _ _).trans (by rw [n_iq91])
theorem z_iq92 : Zr iq92 := z_iq91.al
def iq93 : Hp := zsG iq92 737 17 (some 43)
theorem n_iq93 : zn iq93 = 44 := (eG_zn _ _ _ _).trans n_iq92
theorem z_iq93 : Zr iq93 := z_iq92.sG
def iq94 : Hp := zal iq93 12 6
theorem n_iq94 : zn iq94 = 45 := (al_n _ _ _).trans (by rw [n_iq93])
theorem z_iq94 : Zr iq94 := z_iq93.al
def iq95 : Hp := zsG iq94 738 17 (some 44)
theorem n_iq95 : zn iq95 = 45 := (eG_zn _ _ _ _).trans n_iq94
theorem z_iq95 : Zr iq95 := z_iq94.sG
def iq96 : Hp := zal iq95 12 8
theorem n_iq96 : zn iq96 = 46 := (al_n _ _ _).trans (by rw [n_iq95])
theorem z_iq96 : Zr iq96 := z_iq95.al
def iq97 : Hp := zsG iq96 740 17 (some 45)
theorem n_iq97 : zn iq97 = 46 := (eG_zn _ _ _ _).trans n_iq96
theorem z_iq97 : Zr iq97 := z_iq96.sG
def iq98 : Hp := zsF iq97 743 17 (1 : Int32)
theorem n_iq98 : zn iq98 = 46 := (eF_zn _ _ _ _).trans n_iq97
theorem z_iq98 : Zr iq98 := z_iq97.sF
def iq99 : Hp := zsF iq98 744 17 (1 : Int32)
theorem n_iq99 : zn iq99 = 46 := (eF_zn _ _ _ _).trans n_iq98
theorem z_iq99 : Zr iq99 := z_iq98.sF
def iq100 : Hp := zsF iq99 745 17 (12 : Int32)
theorem n_iq100 : zn iq100 = 46 := (eF_zn _ _ _ _).trans n_iq99
theorem z_iq100 : Zr iq100 := z_iq99.sF
def iq101 : Hp := zsF iq100 748 17 (100 : Int32)
theorem n_iq101 : zn iq101 = 46 := (eF_zn _ _ _ _).trans n_iq100
theorem z_iq101 : Zr iq101 := z_iq100.sF
def iq102 : Hp := zsF iq101 749 17 (100 : Int32)
theorem n_iq102 : zn iq102 = 46 := (eF_zn _ _ _ _).trans n_iq101
theorem z_iq102 : Zr iq102 := z_iq101.sF
def iq103 : Hp := zal iq102 12 10
theorem n_iq103 : zn iq103 = 47 := (al_n _ _ _).trans (by rw [n_iq102])
theorem z_iq103 : Zr iq103 := z_iq102.al
def iq104 : Hp := zsG iq103 751 17 (some 46)
theorem n_iq104 : zn iq104 = 47 := (eG_zn _ _ _ _).trans n_iq103
theorem z_iq104 : Zr iq104 := z_iq103.sG
def iq105 : Hp := zal iq104 12 10
theorem n_iq105 : zn iq105 = 48 := (al_n _ _ _).trans (by rw [n_iq104])
theorem z_iq105 : Zr iq105 := z_iq104.al
def iq106 : Hp := zsG iq105 752 17 (some 47)
theorem n_iq106 : zn iq106 = 48 := (eG_zn _ _ _ _).trans n_iq105
theorem z_iq106 : Zr iq106 := z_iq105.sG
theorem e_X12 (N : Nat) : fX12_init N 17 iq40 = some iq106 := by
  unfold fX12_init
  refine bd_c (y := iq41) rfl ?_
  refine (gd_t (show 17 < zn iq41 ∧ zK iq41 17 = 11 by decide +kernel)).trans ?_
  refine bd_c (y := iq42) (congrArg (fun q => zsG iq41 707 17 (some q)) n_iq40) ?_
  refine bd_c (y := iq43) rfl ?_
  refine bd_c (y := iq44) (congrArg (fun q => zsG iq43 708 17 (some q)) n_iq42) ?_
  refine bd_c (y := iq45) rfl ?_
  refine bd_c (y := iq46) (congrArg (fun q => zsG iq45 709 17 (some q)) n_iq44) ?_
  refine bd_c (y := iq47) rfl ?_
  refine bd_c (y := iq48) (congrArg (fun q => zsG iq47 710 17 (some q)) n_iq46) ?_
  refine bd_c (y := iq49) rfl ?_
  refine bd_c (y := iq50) (congrArg (fun q => zsG iq49 712 17 (some q)) n_iq48) ?_
  refine bd_c (y := iq51) rfl ?_
  refine bd_c (y := iq52) (congrArg (fun q => zsG iq51 713 17 (some q)) n_iq50) ?_
  refine bd_c (y := iq53) rfl ?_
  refine bd_c (y := iq54) (congrArg (fun q => zsG iq53 714 17 (some q)) n_iq52) ?_
  refine bd_c (y := iq55) rfl ?_
  refine bd_c (y := iq56) (congrArg (fun q => zsG iq55 715 17 (some q)) n_iq54) ?_
  refine bd_c (y := iq57) rfl ?_
  refine bd_c (y := iq58) (congrArg (fun q => zsG iq57 716 17 (some q)) n_iq56) ?_
  refine bd_c (y := iq59) rfl ?_
  refine bd_c (y := iq60) rfl ?_
  refine bd_c (y := iq61) (congrArg (fun q => zsG iq60 720 17 (some q)) n_iq59) ?_
  refine bd_c (y := iq62) rfl ?_
  refine bd_c (y := iq63) (congrArg (fun q => zsG iq62 721 17 (some q)) n_iq61) ?_
  refine bd_c (y := iq64) rfl ?_
  refine bd_c (y := iq65) (congrArg (fun q => zsG iq64 722 17 (some q)) n_iq63) ?_
  refine bd_c (y := iq66) rfl ?_
  refine bd_c (y := iq67) (congrArg (fun q => zsG iq66 723 17 (some q)) n_iq65) ?_
  refine bd_c (y := iq68) rfl ?_
  refine bd_c (y := iq69) (congrArg (fun q => zsG iq68 724 17 (some q)) n_iq67) ?_
  refine bd_c (y := iq70) rfl ?_
  refine bd_c (y := iq71) (congrArg (fun q => zsG iq70 725 17 (some q)) n_iq69) ?_
  refine bd_c (y := iq72) rfl ?_
  refine bd_c (y := iq73) (congrArg (fun q => zsG iq72 726 17 (some q)) n_iq71) ?_
  refine bd_c (y := iq74) rfl ?_
  refine bd_c (y := iq75) (congrArg (fun q => zsG iq74 728 17 (some q)) n_iq73) ?_
  refine bd_c (y := iq76) rfl ?_
  refine bd_c (y := iq77) (congrArg (fun q => zsG iq76 729 17 (some q)) n_iq75) ?_
  refine bd_c (y := iq78) rfl ?_
  refine bd_c (y := iq79) (congrArg (fun q => zsG iq78 730 17 (some q)) n_iq77) ?_
  refine bd_c (y := iq80) rfl ?_
  refine bd_c (y := iq81) (congrArg (fun q => zsG iq80 731 17 (some q)) n_iq79) ?_
  refine bd_c (y := iq82) rfl ?_
  refine bd_c (y := iq83) (congrArg (fun q => zsG iq82 732 17 (some q)) n_iq81) ?_
  refine bd_c (y := iq84) rfl ?_
  refine bd_c (y := iq85) (congrArg (fun q => zsG iq84 733 17 (some q)) n_iq83) ?_
  refine bd_c (y := iq86) rfl ?_
  refine bd_c (y := iq87) (congrArg (fun q => zsG iq86 734 17 (some q)) n_iq85) ?_
  refine bd_c (y := iq88) rfl ?_
  refine bd_c (y := iq89) (congrArg (fun q => zsG iq88 735 17 (some q)) n_iq87) ?_
  refine bd_c (y := iq90) rfl ?_
  refine bd_c (y := iq91) (congrArg (fun q => zsG iq90 736 17 (some q)) n_iq89) ?_
  refine bd_c (y := iq92) rfl ?_
  refine bd_c (y := iq93) (congrArg (fun q => zsG iq92 737 17 (some q)) n_iq91) ?_
  refine bd_c (y := iq94) rfl ?_
  refine bd_c (y := iq95) (congrArg (fun q => zsG iq94 738 17 (some q)) n_iq93) ?_
  refine bd_c (y := iq96) rfl ?_
  refine bd_c (y := iq97) (congrArg (fun q => zsG iq96 740 17 (some q)) n_iq95) ?_
  refine bd_c (y := iq98) rfl ?_
  refine bd_c (y := iq99) rfl ?_
  refine bd_c (y := iq100) rfl ?_
  refine bd_c (y := iq101) rfl ?_
  refine bd_c (y := iq102) rfl ?_
  refine bd_c (y := iq103) rfl ?_
  refine bd_c (y := iq104) (congrArg (fun q => zsG iq103 751 17 (some q)) n_iq102) ?_
  refine bd_c (y := iq105) rfl ?_
  refine bd_c (y := iq106) (congrArg (fun q => zsG iq105 752 17 (some q)) n_iq104) ?_
  rfl
theorem op_init (N : Nat) : OpInit N Inv := by
  refine ⟨iq39, iq106, e_X11 N, n_iq39, e_X12 N, ?_⟩
  obtain ⟨r1, r2, r3⟩ := z_iq106
  refine ⟨⟨by decide +kernel, by decide +kernel, by decide +kernel, by decide +kernel⟩, ⟨⟨16, by decide +kernel, by decide, by decide⟩, by decide +kernel, by decide +kernel, by decide +kernel, ⟨1, by decide +kernel, by decide⟩, by decide +kernel, by decide +kernel⟩, ⟨⟨0, by decide +kernel, by decide⟩, ⟨0, by decide +kernel, by decide⟩, ⟨100, by decide +kernel, by decide⟩, ⟨100, by decide +kernel, by decide, by decide⟩, by decide +kernel, by decide +kernel, by decide +kernel, by decide +kernel, by decide +kernel⟩, 0, 0, 0, 0, 0, 0, 0, 0, ?_, ?_, ?_, ?_, ?_, ?_, ?_, ?_, ?_⟩
  · exact ⟨⟨by decide +kernel, by decide +kernel, by decide, by decide, by decide +kernel⟩, ⟨by decide +kernel, by decide +kernel, by decide⟩, ⟨by decide +kernel, by decide +kernel, by decide⟩, ⟨by decide +kernel, by decide +kernel, by decide⟩, ⟨by decide +kernel, by decide +kernel⟩, ⟨by decide +kernel, by decide +kernel, by decide⟩, ⟨by decide +kernel, by decide +kernel, by decide⟩⟩
  · exact ⟨fun k hk => absurd hk (Nat.not_lt_zero k), fun v _ _ => ⟨r1 14 v, r1 15 v⟩⟩
  · exact ⟨fun k hk => absurd hk (Nat.not_lt_zero k), fun i j a b _ hj => absurd hj (Nat.not_lt_zero j), fun i _ => ⟨r1 24 i, r1 25 i⟩⟩
  · exact ⟨fun k hk => absurd hk (Nat.not_lt_zero k), fun i j a b _ hj => absurd hj (Nat.not_lt_zero j), fun i _ => ⟨r1 35 i, r1 36 i, r1 37 i⟩⟩
  · exact ⟨fun k hk => absurd hk (Nat.not_lt_zero k), fun i j _ hj => absurd hj (Nat.not_lt_zero j), fun k hk => absurd hk (Nat.not_lt_zero k)⟩
  · exact ⟨Nat.zero_le _, fun k hk => absurd hk (Nat.not_lt_zero k)⟩
  · exact fun v _ => ⟨r2 7 v, r2 8 v⟩
  · exact ⟨fun k hk => absurd hk (Nat.not_lt_zero k), fun i j a b _ hj => absurd hj (Nat.not_lt_zero j), fun i _ => r1 44 i⟩
  · exact ⟨0, 0, 0, 0, by decide +kernel, by decide +kernel, by decide +kernel, by decide +kernel, by decide, by decide, by decide, by decide, Or.inl ⟨rfl, Nat.le_refl _⟩⟩
theorem ops_all (N : Nat) (hN : 6000 ≤ N) : Ops N Inv := ⟨op_go N hN, op_baker N, op_buy N, op_grind N, op_dish N, op_price N hN, op_text N, op_step N, op_inForce N hN, op_due N hN, op_bake N hN, op_search N hN, op_turn N hN, op_rules N, op_record N, op_lot N, op_batch N, op_found N, op_about N hN, op_store N, op_mouths N, op_ration N, op_harvest N, op_foretell N hN, op_order N hN, op_told N, fun z h => ⟨of_eq_true (o0 h.1), of_eq_true (o17 h.1)⟩⟩
