/-! what every call keeps -/
def OKS (S : Int32 × Gd × Gd) : Prop := Inv S.2.1 ∧ YI S.2.2
theorem bmp_ok {y : Gd} {k : Nat} (hy : YI y) : YI (bmp y k) := ⟨hy.1, hy.2.1, hy.2.2.1, hy.2.2.2.1, hy.2.2.2.2⟩
theorem OKS.m {v : Int32} {g y : Gd} (hI : Inv g) (hy : YI y) : OKS (v, g, y) := ⟨hI, hy⟩
theorem OKS.r {g y : Gd} {k : Nat} (hI : Inv g) (hy : YI y) : OKS (rfs g y k) := ⟨hI, bmp_ok hy⟩
theorem OKS.o {g y : Gd} {v : Int32} (hI : Inv g) (hy : YI y) : OKS (oks g y v) := ⟨hI, hy⟩
theorem bT {b : Bool} (h : ¬ b = false) : b = true := by
  cases b
  · exact absurd rfl h
  · rfl
theorem ok_letter {g y : Gd} {x : Int32} (hI : Inv g) (hy : YI y) : OKS (sp_letter g y x) := by
  unfold sp_letter
  split
  · exact OKS.r hI hy
  · split
    · exact OKS.r hI hy
    · split
      · exact OKS.r hI hy
      · rename_i h1 h2 h3
        obtain ⟨y00, y01, y02, y1, y2⟩ := id hy
        obtain ⟨n, hn, rfl⟩ := i_le (k := 255) (by decide) h1 h2
        rw [nI_clamp (by omega)]
        refine OKS.m hI ⟨y00, by show y 0 1 + 1 ≤ 80; omega, y02, fun i => ?_, y2⟩
        show gs y 1 (y 0 1) n 1 i ≤ 255
        exact gs_le y1 hn i
theorem ok_bitter {g y : Gd} {x z : Int32} (hI : Inv g) (hy : YI y) : OKS (sp_bitter g y x z) := by
  unfold sp_bitter
  split
  · exact OKS.r hI hy
  · split
    · exact OKS.r hI hy
    · split
      · exact OKS.r hI hy
      · rename_i h1 h2 h3
        obtain ⟨n, hn, rfl⟩ := i_le (k := 9) (by decide) h2 h3
        rw [nI_clamp (by omega)]
        exact OKS.m (hI.oBit hn) hy
theorem ok_ink {g y : Gd} {x z : Int32} (hI : Inv g) (hy : YI y) : OKS (sp_ink g y x z) := by
  unfold sp_ink
  split
  · exact OKS.r hI hy
  · split
    · exact OKS.r hI hy
    · rename_i h1 h2
      obtain ⟨n, hn, rfl⟩ := eHas_i (by decide) (bT h2)
      rw [nI_clamp (by omega)]
      exact OKS.m (hI.oInk (by omega)) hy
theorem ok_watch {g y : Gd} {x h z : Int32} (hI : Inv g) (hy : YI y) : OKS (sp_watch g y x h z) := by
  unfold sp_watch
  have f0 := hI.words
  split
  · exact OKS.r hI hy
  · rename_i h1
    obtain ⟨n, hn, rfl⟩ := eHas_i (by omega) (bT h1)
    rw [nI_clamp (by omega)]
    split
    · exact OKS.r hI hy
    · split
      · split
        · exact OKS.m (hI.oWset hn) hy
        · split
          · exact OKS.m (hI.oWset hn) hy
          · exact OKS.r hI hy
      · exact OKS.r hI hy
theorem ok_hour {g y : Gd} (hI : Inv g) (hy : YI y) : OKS (sp_hour g y) := by
  unfold sp_hour
  split
  · exact OKS.r hI hy
  · exact OKS.m hI.oHr hy
theorem ok_anew {g y : Gd} (hI : Inv g) (hy : YI y) : OKS (sp_anew g y) := by
  obtain ⟨h0, h1, h2, h3, h4, h5, h6, h7, h8, h9, h10, h11, h12⟩ := hI
  exact OKS.m ⟨h0, h1, by show 0 < 2 ^ g 9 0; exact Nat.two_pow_pos _, by show 0 ≤ 8; decide, h4, h5, h6, h7, h8, h9, h10, h11, h12⟩ hy
theorem ok_row {g y : Gd} {x : Int32} (hI : Inv g) (hy : YI y) : OKS (sp_row g y x) := by
  unfold sp_row
  split
  · exact OKS.r hI hy
  · split
    · exact OKS.r hI hy
    · split
      · rename_i h1 h2 h3
        obtain ⟨y00, y01, y02, y1, y2⟩ := id hy
        obtain ⟨n, hn, rfl⟩ := i_le (k := 9) (by decide) h1 h2
        rw [nI_clamp (by omega)]
        refine OKS.m hI ⟨y00, y01, by show y 0 2 + 1 ≤ 10; omega, y1, fun i => ?_⟩
        show gs y 2 (y 0 2) n 2 i ≤ 9
        exact gs_le y2 hn i
      · exact OKS.r hI hy
theorem ok_judge {g y : Gd} (hI : Inv g) (hy : YI y) : OKS (sp_judge g y) := OKS.m hI ⟨hy.1, hy.2.1, by show 0 ≤ 10; decide, hy.2.2.2.1, hy.2.2.2.2⟩
theorem ok_image {g y : Gd} (hI : Inv g) (hy : YI y) : OKS (sp_image g y) := OKS.m hI ⟨by show 1 ≤ 1; decide, hy.2.1, hy.2.2.1, hy.2.2.2.1, hy.2.2.2.2⟩
theorem ok_on {g gi y : Gd} (hI : Inv g) (hG : Inv gi) (hy : YI y) : OKS (sp_on g gi y) := by
  unfold sp_on
  split
  · exact OKS.r hI hy
  · exact OKS.m hG hy
theorem ok_text {g y : Gd} (hI : Inv g) (hy : YI y) : OKS (sp_text g y) := by
  obtain ⟨y00, y01, y02, y1, y2⟩ := id hy
  have hy0 : YI (gs y 0 1 0) := ⟨y00, by show 0 ≤ 80; decide, y02, y1, y2⟩
  rcases hm : eMi y 81 0 with _ | q
  · rcases hu : eUnf y (y 0 1) 0 (g 9 0) (g 9 1) with _ | u
    · have hF := unf_all (g := g) (y 0 1) 0 hu
      have e : sp_text g y = (nI (eTl y g (y 0 1)).2, (eTl y g (y 0 1)).1, gs y 0 1 0) := by unfold sp_text; rw [hm, hu]
      rw [e]
      exact OKS.m (hI.oTl (mis_ok y01 hm) (fun p h1 h2 => hF p (Nat.zero_le _) (by omega) h2) (y 0 1) (Nat.le_refl _)) hy0
    · have e : sp_text g y = ((-2000) - nI u, g, gs y 0 1 0) := by unfold sp_text; rw [hm, hu]
      rw [e]; exact OKS.m hI hy0
  · have e : sp_text g y = ((-1000) - nI q, g, gs y 0 1 0) := by unfold sp_text; rw [hm]
    rw [e]; exact OKS.m hI hy0
theorem ok_word {g y : Gd} {x z : Int32} (hI : Inv g) (hy : YI y) : OKS (sp_word g y x z) := by
  unfold sp_word
  repeat' split
  all_goals first | exact OKS.r hI hy | exact OKS.o hI hy
theorem ok_bird {g y : Gd} {x z : Int32} (hI : Inv g) (hy : YI y) : OKS (sp_bird g y x z) := by
  unfold sp_bird
  repeat' split
  all_goals first | exact OKS.r hI hy | exact OKS.o hI hy
theorem ok_left {g y : Gd} {x : Int32} (hI : Inv g) (hy : YI y) : OKS (sp_left g y x) := by
  unfold sp_left
  repeat' split
  all_goals first | exact OKS.r hI hy | exact OKS.o hI hy
theorem ok_eaten {g y : Gd} {x : Int32} (hI : Inv g) (hy : YI y) : OKS (sp_eaten g y x) := by
  unfold sp_eaten
  repeat' split
  all_goals first | exact OKS.r hI hy | exact OKS.o hI hy
theorem ok_meanings {g y : Gd} (hI : Inv g) (hy : YI y) : OKS (sp_meanings g y) := OKS.o hI hy
theorem ok_remain {g y : Gd} (hI : Inv g) (hy : YI y) : OKS (sp_remain g y) := OKS.o hI hy
theorem ok_holds {g y : Gd} {x : Int32} (hI : Inv g) (hy : YI y) : OKS (sp_holds g y x) := by
  unfold sp_holds
  repeat' split
  all_goals first | exact OKS.r hI hy | exact OKS.o hI hy
theorem ok_boys {g y : Gd} {x : Int32} (hI : Inv g) (hy : YI y) : OKS (sp_boys g y x) := by
  unfold sp_boys
  repeat' split
  all_goals first | exact OKS.r hI hy | exact OKS.o hI hy
theorem ok_guard {g y : Gd} (hI : Inv g) (hy : YI y) : OKS (sp_guard g y) := OKS.o hI hy
theorem ok_becomes {g y : Gd} (hI : Inv g) (hy : YI y) : OKS (sp_becomes g y) := OKS.o hI hy
theorem ok_danger {g y : Gd} (hI : Inv g) (hy : YI y) : OKS (sp_danger g y) := OKS.o hI hy
theorem ok_lasts {g y : Gd} {x : Int32} (hI : Inv g) (hy : YI y) : OKS (sp_lasts g y x) := by
  unfold sp_lasts
  repeat' split
  all_goals first | exact OKS.r hI hy | exact OKS.o hI hy
theorem ok_mixed {g y : Gd} {x z : Int32} (hI : Inv g) (hy : YI y) : OKS (sp_mixed g y x z) := by
  unfold sp_mixed
  repeat' split
  all_goals first | exact OKS.r hI hy | exact OKS.o hI hy
theorem ok_tastes {g y : Gd} {x z : Int32} (hI : Inv g) (hy : YI y) : OKS (sp_tastes g y x z) := by
  unfold sp_tastes
  repeat' split
  all_goals first | exact OKS.r hI hy | exact OKS.o hI hy
theorem ok_fitting {g y : Gd} {x z : Int32} (hI : Inv g) (hy : YI y) : OKS (sp_fitting g y x z) := by
  unfold sp_fitting
  repeat' split
  all_goals first | exact OKS.r hI hy | exact OKS.o hI hy
theorem ok_seeds {g y : Gd} {x z : Int32} (hI : Inv g) (hy : YI y) : OKS (sp_seeds g y x z) := by
  unfold sp_seeds
  repeat' split
  all_goals first | exact OKS.r hI hy | exact OKS.o hI hy
theorem ok_count {g y : Gd} {x : Int32} (hI : Inv g) (hy : YI y) : OKS (sp_count g y x) := OKS.o hI hy
theorem ok_winter {g y : Gd} {x : Int32} (hI : Inv g) (hy : YI y) : OKS (sp_winter g y x) := by
  unfold sp_winter
  split
  · exact OKS.m hI (bmp_ok hy)
  · exact OKS.o hI hy
theorem gz_inv : Inv gz := ⟨by decide, by decide, by decide, by decide, fun _ => Nat.zero_le _, fun _ => Nat.zero_le _, fun _ => Nat.zero_le _, fun _ => Nat.zero_le _, fun _ => Nat.zero_le _, fun _ => Nat.zero_le _, fun _ => Nat.zero_le _, fun _ => Nat.zero_le _, fun _ => by show 0 < 2 ^ 0; decide⟩
theorem gz_yi : YI gz := ⟨by decide, by decide, by decide, fun _ => Nat.zero_le _, fun _ => Nat.zero_le _⟩
theorem gz_ih : IH gz gz := fun k _ => by
  show 0 = enc gz k
  unfold enc
  repeat' split
  all_goals rfl
theorem wX_app {E : Ev} {kk a b c al ax : Nat → Nat} {g gm gi y : Gd} {r : va_W} : wX E kk a b c al ax g gm gi y r = wX E kk a b c al ax g gm gi y [] ++ r := by
  unfold wX
  simp only [List.append_assoc, List.nil_append]
theorem pm_xm {E : Ev} {kk a b c al ax : Nat → Nat} {g gm gi y : Gd} {r : va_W} : (wX E kk a b c al ax g gm gi y r).Perm (r ++ wX E kk a b c al ax g gm gi y []) := by
  rw [wX_app]; exact List.perm_append_comm
theorem pm_mx {E : Ev} {kk a b c al ax : Nat → Nat} {g gm gi y : Gd} {r : va_W} : (r ++ wX E kk a b c al ax g gm gi y []).Perm (wX E kk a b c al ax g gm gi y r) := pm_xm.symm
