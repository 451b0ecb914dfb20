/-! SOUNDNESS -/
theorem zm_zgo (pc : Nat) (off : Int) (L : zL) (st : List Value) (h : zH) {F : zF} (hz : zgo pc off L st h = some F) : h.1 ≤ F.2.2.2.1 ∧ h.2.1 ≤ F.2.2.2.2.1 := by
  unfold zgo at hz
  repeat' split at hz
  all_goals first
    | (cases hz; done)
    | (cases hz; exact ⟨Nat.le_refl _, Nat.le_refl _⟩)
    | (cases hz; exact ⟨Nat.le_succ _, Nat.le_add_right _ _⟩)
theorem zm_zs_il (n pc i : Nat) (L : zL) (st : List Value) (h : zH) {F : zF} (hz : zs_il n pc i L st h = some F) : h.1 ≤ F.2.2.2.1 ∧ h.2.1 ≤ F.2.2.2.2.1 := by
  unfold zs_il at hz
  repeat' split at hz
  all_goals first
    | (cases hz; done)
    | (cases hz; exact ⟨Nat.le_refl _, Nat.le_refl _⟩)
    | (cases hz; exact ⟨Nat.le_succ _, Nat.le_add_right _ _⟩)
    | exact zm_zgo _ _ _ _ _ hz
theorem zm_zs_jl (n pc i : Nat) (L : zL) (st : List Value) (h : zH) {F : zF} (hz : zs_jl n pc i L st h = some F) : h.1 ≤ F.2.2.2.1 ∧ h.2.1 ≤ F.2.2.2.2.1 := by
  unfold zs_jl at hz
  repeat' split at hz
  all_goals first
    | (cases hz; done)
    | (cases hz; exact ⟨Nat.le_refl _, Nat.le_refl _⟩)
    | (cases hz; exact ⟨Nat.le_succ _, Nat.le_add_right _ _⟩)
    | exact zm_zgo _ _ _ _ _ hz
theorem zm_zs_al (n pc i : Nat) (L : zL) (st : List Value) (h : zH) {F : zF} (hz : zs_al n pc i L st h = some F) : h.1 ≤ F.2.2.2.1 ∧ h.2.1 ≤ F.2.2.2.2.1 := by
  unfold zs_al at hz
  repeat' split at hz
  all_goals first
    | (cases hz; done)
    | (cases hz; exact ⟨Nat.le_refl _, Nat.le_refl _⟩)
    | (cases hz; exact ⟨Nat.le_succ _, Nat.le_add_right _ _⟩)
    | exact zm_zgo _ _ _ _ _ hz
theorem zm_zs_is (n pc i : Nat) (L : zL) (st : List Value) (h : zH) {F : zF} (hz : zs_is n pc i L st h = some F) : h.1 ≤ F.2.2.2.1 ∧ h.2.1 ≤ F.2.2.2.2.1 := by
  unfold zs_is at hz
  repeat' split at hz
  all_goals first
    | (cases hz; done)
    | (cases hz; exact ⟨Nat.le_refl _, Nat.le_refl _⟩)
    | (cases hz; exact ⟨Nat.le_succ _, Nat.le_add_right _ _⟩)
    | exact zm_zgo _ _ _ _ _ hz
theorem zm_zs_js (n pc i : Nat) (L : zL) (st : List Value) (h : zH) {F : zF} (hz : zs_js n pc i L st h = some F) : h.1 ≤ F.2.2.2.1 ∧ h.2.1 ≤ F.2.2.2.2.1 := by
  unfold zs_js at hz
  repeat' split at hz
  all_goals first
    | (cases hz; done)
    | (cases hz; exact ⟨Nat.le_refl _, Nat.le_refl _⟩)
    | (cases hz; exact ⟨Nat.le_succ _, Nat.le_add_right _ _⟩)
    | exact zm_zgo _ _ _ _ _ hz
theorem zm_zs_as (n pc i : Nat) (L : zL) (st : List Value) (h : zH) {F : zF} (hz : zs_as n pc i L st h = some F) : h.1 ≤ F.2.2.2.1 ∧ h.2.1 ≤ F.2.2.2.2.1 := by
  unfold zs_as at hz
  repeat' split at hz
  all_goals first
    | (cases hz; done)
    | (cases hz; exact ⟨Nat.le_refl _, Nat.le_refl _⟩)
    | (cases hz; exact ⟨Nat.le_succ _, Nat.le_add_right _ _⟩)
    | exact zm_zgo _ _ _ _ _ hz
theorem zm_zs_inc (pc i : Nat) (k : Int) (L : zL) (st : List Value) (h : zH) {F : zF} (hz : zs_inc pc i k L st h = some F) : h.1 ≤ F.2.2.2.1 ∧ h.2.1 ≤ F.2.2.2.2.1 := by
  unfold zs_inc at hz
  repeat' split at hz
  all_goals first
    | (cases hz; done)
    | (cases hz; exact ⟨Nat.le_refl _, Nat.le_refl _⟩)
    | (cases hz; exact ⟨Nat.le_succ _, Nat.le_add_right _ _⟩)
    | exact zm_zgo _ _ _ _ _ hz
theorem zm_zs_ii (pc : Nat) (L : zL) (st : List Value) (h : zH) (f : Int32 → Int32 → Int32) {F : zF} (hz : zs_ii pc L st h f = some F) : h.1 ≤ F.2.2.2.1 ∧ h.2.1 ≤ F.2.2.2.2.1 := by
  unfold zs_ii at hz
  repeat' split at hz
  all_goals first
    | (cases hz; done)
    | (cases hz; exact ⟨Nat.le_refl _, Nat.le_refl _⟩)
    | (cases hz; exact ⟨Nat.le_succ _, Nat.le_add_right _ _⟩)
    | exact zm_zgo _ _ _ _ _ hz
theorem zm_zs_dv (pc : Nat) (L : zL) (st : List Value) (h : zH) (f : Int32 → Int32 → Int32) {F : zF} (hz : zs_dv pc L st h f = some F) : h.1 ≤ F.2.2.2.1 ∧ h.2.1 ≤ F.2.2.2.2.1 := by
  unfold zs_dv at hz
  repeat' split at hz
  all_goals first
    | (cases hz; done)
    | (cases hz; exact ⟨Nat.le_refl _, Nat.le_refl _⟩)
    | (cases hz; exact ⟨Nat.le_succ _, Nat.le_add_right _ _⟩)
    | exact zm_zgo _ _ _ _ _ hz
theorem zm_zs_jj (pc : Nat) (L : zL) (st : List Value) (h : zH) (f : Int64 → Int64 → Value) {F : zF} (hz : zs_jj pc L st h f = some F) : h.1 ≤ F.2.2.2.1 ∧ h.2.1 ≤ F.2.2.2.2.1 := by
  unfold zs_jj at hz
  repeat' split at hz
  all_goals first
    | (cases hz; done)
    | (cases hz; exact ⟨Nat.le_refl _, Nat.le_refl _⟩)
    | (cases hz; exact ⟨Nat.le_succ _, Nat.le_add_right _ _⟩)
    | exact zm_zgo _ _ _ _ _ hz
theorem zm_zs_ji (pc : Nat) (L : zL) (st : List Value) (h : zH) (f : Int64 → Int32 → Int64) {F : zF} (hz : zs_ji pc L st h f = some F) : h.1 ≤ F.2.2.2.1 ∧ h.2.1 ≤ F.2.2.2.2.1 := by
  unfold zs_ji at hz
  repeat' split at hz
  all_goals first
    | (cases hz; done)
    | (cases hz; exact ⟨Nat.le_refl _, Nat.le_refl _⟩)
    | (cases hz; exact ⟨Nat.le_succ _, Nat.le_add_right _ _⟩)
    | exact zm_zgo _ _ _ _ _ hz
theorem zm_zs_i1 (pc : Nat) (L : zL) (st : List Value) (h : zH) (f : Int32 → Value) {F : zF} (hz : zs_i1 pc L st h f = some F) : h.1 ≤ F.2.2.2.1 ∧ h.2.1 ≤ F.2.2.2.2.1 := by
  unfold zs_i1 at hz
  repeat' split at hz
  all_goals first
    | (cases hz; done)
    | (cases hz; exact ⟨Nat.le_refl _, Nat.le_refl _⟩)
    | (cases hz; exact ⟨Nat.le_succ _, Nat.le_add_right _ _⟩)
    | exact zm_zgo _ _ _ _ _ hz
theorem zm_zs_j1 (pc : Nat) (L : zL) (st : List Value) (h : zH) (f : Int64 → Value) {F : zF} (hz : zs_j1 pc L st h f = some F) : h.1 ≤ F.2.2.2.1 ∧ h.2.1 ≤ F.2.2.2.2.1 := by
  unfold zs_j1 at hz
  repeat' split at hz
  all_goals first
    | (cases hz; done)
    | (cases hz; exact ⟨Nat.le_refl _, Nat.le_refl _⟩)
    | (cases hz; exact ⟨Nat.le_succ _, Nat.le_add_right _ _⟩)
    | exact zm_zgo _ _ _ _ _ hz
theorem zm_zs_if (pc : Nat) (off : Int) (L : zL) (st : List Value) (h : zH) (f : Int32 → Bool) {F : zF} (hz : zs_if pc off L st h f = some F) : h.1 ≤ F.2.2.2.1 ∧ h.2.1 ≤ F.2.2.2.2.1 := by
  unfold zs_if at hz
  repeat' split at hz
  all_goals first
    | (cases hz; done)
    | (cases hz; exact ⟨Nat.le_refl _, Nat.le_refl _⟩)
    | (cases hz; exact ⟨Nat.le_succ _, Nat.le_add_right _ _⟩)
    | exact zm_zgo _ _ _ _ _ hz
theorem zm_zs_ic (pc : Nat) (off : Int) (L : zL) (st : List Value) (h : zH) (f : Int32 → Int32 → Bool) {F : zF} (hz : zs_ic pc off L st h f = some F) : h.1 ≤ F.2.2.2.1 ∧ h.2.1 ≤ F.2.2.2.2.1 := by
  unfold zs_ic at hz
  repeat' split at hz
  all_goals first
    | (cases hz; done)
    | (cases hz; exact ⟨Nat.le_refl _, Nat.le_refl _⟩)
    | (cases hz; exact ⟨Nat.le_succ _, Nat.le_add_right _ _⟩)
    | exact zm_zgo _ _ _ _ _ hz
theorem zm_zs_nu (pc : Nat) (off : Int) (L : zL) (st : List Value) (h : zH) {F : zF} (hz : zs_nu pc off L st h = some F) : h.1 ≤ F.2.2.2.1 ∧ h.2.1 ≤ F.2.2.2.2.1 := by
  unfold zs_nu at hz
  repeat' split at hz
  all_goals first
    | (cases hz; done)
    | (cases hz; exact ⟨Nat.le_refl _, Nat.le_refl _⟩)
    | (cases hz; exact ⟨Nat.le_succ _, Nat.le_add_right _ _⟩)
    | exact zm_zgo _ _ _ _ _ hz
theorem zm_zs_nn (pc : Nat) (off : Int) (L : zL) (st : List Value) (h : zH) {F : zF} (hz : zs_nn pc off L st h = some F) : h.1 ≤ F.2.2.2.1 ∧ h.2.1 ≤ F.2.2.2.2.1 := by
  unfold zs_nn at hz
  repeat' split at hz
  all_goals first
    | (cases hz; done)
    | (cases hz; exact ⟨Nat.le_refl _, Nat.le_refl _⟩)
    | (cases hz; exact ⟨Nat.le_succ _, Nat.le_add_right _ _⟩)
    | exact zm_zgo _ _ _ _ _ hz
theorem zm_zs_tab (pc : Nat) (dflt lo hi : Int) (offs : Array Int) (L : zL) (st : List Value) (h : zH) {F : zF} (hz : zs_tab pc dflt lo hi offs L st h = some F) : h.1 ≤ F.2.2.2.1 ∧ h.2.1 ≤ F.2.2.2.2.1 := by
  unfold zs_tab at hz
  repeat' split at hz
  all_goals first
    | (cases hz; done)
    | (cases hz; exact ⟨Nat.le_refl _, Nat.le_refl _⟩)
    | (cases hz; exact ⟨Nat.le_succ _, Nat.le_add_right _ _⟩)
    | exact zm_zgo _ _ _ _ _ hz
theorem zm_zs_dup (pc : Nat) (L : zL) (st : List Value) (h : zH) {F : zF} (hz : zs_dup pc L st h = some F) : h.1 ≤ F.2.2.2.1 ∧ h.2.1 ≤ F.2.2.2.2.1 := by
  unfold zs_dup at hz
  repeat' split at hz
  all_goals first
    | (cases hz; done)
    | (cases hz; exact ⟨Nat.le_refl _, Nat.le_refl _⟩)
    | (cases hz; exact ⟨Nat.le_succ _, Nat.le_add_right _ _⟩)
    | exact zm_zgo _ _ _ _ _ hz
theorem zm_zs_pop (pc : Nat) (L : zL) (st : List Value) (h : zH) {F : zF} (hz : zs_pop pc L st h = some F) : h.1 ≤ F.2.2.2.1 ∧ h.2.1 ≤ F.2.2.2.2.1 := by
  unfold zs_pop at hz
  repeat' split at hz
  all_goals first
    | (cases hz; done)
    | (cases hz; exact ⟨Nat.le_refl _, Nat.le_refl _⟩)
    | (cases hz; exact ⟨Nat.le_succ _, Nat.le_add_right _ _⟩)
    | exact zm_zgo _ _ _ _ _ hz
theorem zm_zs_dup2 (pc : Nat) (L : zL) (st : List Value) (h : zH) {F : zF} (hz : zs_dup2 pc L st h = some F) : h.1 ≤ F.2.2.2.1 ∧ h.2.1 ≤ F.2.2.2.2.1 := by
  unfold zs_dup2 at hz
  repeat' split at hz
  all_goals first
    | (cases hz; done)
    | (cases hz; exact ⟨Nat.le_refl _, Nat.le_refl _⟩)
    | (cases hz; exact ⟨Nat.le_succ _, Nat.le_add_right _ _⟩)
    | exact zm_zgo _ _ _ _ _ hz
theorem zm_zs_ldc (pc o idx : Nat) (L : zL) (st : List Value) (h : zH) {F : zF} (hz : zs_ldc pc o idx L st h = some F) : h.1 ≤ F.2.2.2.1 ∧ h.2.1 ≤ F.2.2.2.2.1 := by
  unfold zs_ldc at hz
  repeat' split at hz
  all_goals first
    | (cases hz; done)
    | (cases hz; exact ⟨Nat.le_refl _, Nat.le_refl _⟩)
    | (cases hz; exact ⟨Nat.le_succ _, Nat.le_add_right _ _⟩)
    | exact zm_zgo _ _ _ _ _ hz
theorem zm_zs_ldc2 (pc o idx : Nat) (L : zL) (st : List Value) (h : zH) {F : zF} (hz : zs_ldc2 pc o idx L st h = some F) : h.1 ≤ F.2.2.2.1 ∧ h.2.1 ≤ F.2.2.2.2.1 := by
  unfold zs_ldc2 at hz
  repeat' split at hz
  all_goals first
    | (cases hz; done)
    | (cases hz; exact ⟨Nat.le_refl _, Nat.le_refl _⟩)
    | (cases hz; exact ⟨Nat.le_succ _, Nat.le_add_right _ _⟩)
    | exact zm_zgo _ _ _ _ _ hz
theorem zm_zs_gets (pc o idx : Nat) (X : zX) (L : zL) (st : List Value) (h : zH) {F : zF} (hz : zs_gets pc o idx X L st h = some F) : h.1 ≤ F.2.2.2.1 ∧ h.2.1 ≤ F.2.2.2.2.1 := by
  unfold zs_gets at hz
  repeat' split at hz
  all_goals first
    | (cases hz; done)
    | (cases hz; exact ⟨Nat.le_refl _, Nat.le_refl _⟩)
    | (cases hz; exact ⟨Nat.le_succ _, Nat.le_add_right _ _⟩)
    | exact zm_zgo _ _ _ _ _ hz
theorem zm_zs_getf (pc o idx : Nat) (L : zL) (st : List Value) (h : zH) {F : zF} (hz : zs_getf pc o idx L st h = some F) : h.1 ≤ F.2.2.2.1 ∧ h.2.1 ≤ F.2.2.2.2.1 := by
  unfold zs_getf at hz
  repeat' split at hz
  all_goals first
    | (cases hz; done)
    | (cases hz; exact ⟨Nat.le_refl _, Nat.le_refl _⟩)
    | (cases hz; exact ⟨Nat.le_succ _, Nat.le_add_right _ _⟩)
    | exact zm_zgo _ _ _ _ _ hz
theorem zm_zs_putf (ini : Bool) (pc o idx : Nat) (L : zL) (st : List Value) (h : zH) {F : zF} (hz : zs_putf ini pc o idx L st h = some F) : h.1 ≤ F.2.2.2.1 ∧ h.2.1 ≤ F.2.2.2.2.1 := by
  unfold zs_putf at hz
  repeat' split at hz
  all_goals first
    | (cases hz; done)
    | (cases hz; exact ⟨Nat.le_refl _, Nat.le_refl _⟩)
    | (cases hz; exact ⟨Nat.le_succ _, Nat.le_add_right _ _⟩)
    | exact zm_zgo _ _ _ _ _ hz
theorem zm_zs_ald (pc t : Nat) (X : zX) (L : zL) (st : List Value) (h : zH) {F : zF} (hz : zs_ald pc t X L st h = some F) : h.1 ≤ F.2.2.2.1 ∧ h.2.1 ≤ F.2.2.2.2.1 := by
  unfold zs_ald at hz
  repeat' split at hz
  all_goals first
    | (cases hz; done)
    | (cases hz; exact ⟨Nat.le_refl _, Nat.le_refl _⟩)
    | (cases hz; exact ⟨Nat.le_succ _, Nat.le_add_right _ _⟩)
    | exact zm_zgo _ _ _ _ _ hz
theorem zm_zs_bld (pc : Nat) (X : zX) (L : zL) (st : List Value) (h : zH) {F : zF} (hz : zs_bld pc X L st h = some F) : h.1 ≤ F.2.2.2.1 ∧ h.2.1 ≤ F.2.2.2.2.1 := by
  unfold zs_bld at hz
  repeat' split at hz
  all_goals first
    | (cases hz; done)
    | (cases hz; exact ⟨Nat.le_refl _, Nat.le_refl _⟩)
    | (cases hz; exact ⟨Nat.le_succ _, Nat.le_add_right _ _⟩)
    | exact zm_zgo _ _ _ _ _ hz
theorem zm_zs_jld (pc : Nat) (L : zL) (st : List Value) (h : zH) {F : zF} (hz : zs_jld pc L st h = some F) : h.1 ≤ F.2.2.2.1 ∧ h.2.1 ≤ F.2.2.2.2.1 := by
  unfold zs_jld at hz
  repeat' split at hz
  all_goals first
    | (cases hz; done)
    | (cases hz; exact ⟨Nat.le_refl _, Nat.le_refl _⟩)
    | (cases hz; exact ⟨Nat.le_succ _, Nat.le_add_right _ _⟩)
    | exact zm_zgo _ _ _ _ _ hz
theorem zm_zs_rld (pc : Nat) (X : zX) (L : zL) (st : List Value) (h : zH) {F : zF} (hz : zs_rld pc X L st h = some F) : h.1 ≤ F.2.2.2.1 ∧ h.2.1 ≤ F.2.2.2.2.1 := by
  unfold zs_rld at hz
  repeat' split at hz
  all_goals first
    | (cases hz; done)
    | (cases hz; exact ⟨Nat.le_refl _, Nat.le_refl _⟩)
    | (cases hz; exact ⟨Nat.le_succ _, Nat.le_add_right _ _⟩)
    | exact zm_zgo _ _ _ _ _ hz
theorem zm_zs_ast (pc t : Nat) (ty : FieldType) (L : zL) (st : List Value) (h : zH) {F : zF} (hz : zs_ast pc t ty L st h = some F) : h.1 ≤ F.2.2.2.1 ∧ h.2.1 ≤ F.2.2.2.2.1 := by
  unfold zs_ast at hz
  repeat' split at hz
  all_goals first
    | (cases hz; done)
    | (cases hz; exact ⟨Nat.le_refl _, Nat.le_refl _⟩)
    | (cases hz; exact ⟨Nat.le_succ _, Nat.le_add_right _ _⟩)
    | exact zm_zgo _ _ _ _ _ hz
theorem zm_zs_jst (pc : Nat) (L : zL) (st : List Value) (h : zH) {F : zF} (hz : zs_jst pc L st h = some F) : h.1 ≤ F.2.2.2.1 ∧ h.2.1 ≤ F.2.2.2.2.1 := by
  unfold zs_jst at hz
  repeat' split at hz
  all_goals first
    | (cases hz; done)
    | (cases hz; exact ⟨Nat.le_refl _, Nat.le_refl _⟩)
    | (cases hz; exact ⟨Nat.le_succ _, Nat.le_add_right _ _⟩)
    | exact zm_zgo _ _ _ _ _ hz
theorem zm_zs_rst (pc : Nat) (L : zL) (st : List Value) (h : zH) {F : zF} (hz : zs_rst pc L st h = some F) : h.1 ≤ F.2.2.2.1 ∧ h.2.1 ≤ F.2.2.2.2.1 := by
  unfold zs_rst at hz
  repeat' split at hz
  all_goals first
    | (cases hz; done)
    | (cases hz; exact ⟨Nat.le_refl _, Nat.le_refl _⟩)
    | (cases hz; exact ⟨Nat.le_succ _, Nat.le_add_right _ _⟩)
    | exact zm_zgo _ _ _ _ _ hz
theorem zm_zs_len (pc : Nat) (X : zX) (L : zL) (st : List Value) (h : zH) {F : zF} (hz : zs_len pc X L st h = some F) : h.1 ≤ F.2.2.2.1 ∧ h.2.1 ≤ F.2.2.2.2.1 := by
  unfold zs_len at hz
  repeat' split at hz
  all_goals first
    | (cases hz; done)
    | (cases hz; exact ⟨Nat.le_refl _, Nat.le_refl _⟩)
    | (cases hz; exact ⟨Nat.le_succ _, Nat.le_add_right _ _⟩)
    | exact zm_zgo _ _ _ _ _ hz
theorem zm_zs_newa (pc : Nat) (t : Nat) (q : Nat → vp_A) (L : zL) (st : List Value) (h : zH) {F : zF} (hz : zs_newa pc t q L st h = some F) : h.1 ≤ F.2.2.2.1 ∧ h.2.1 ≤ F.2.2.2.2.1 := by
  unfold zs_newa at hz
  repeat' split at hz
  all_goals first
    | (cases hz; done)
    | (cases hz; exact ⟨Nat.le_refl _, Nat.le_refl _⟩)
    | (cases hz; exact ⟨Nat.le_succ _, Nat.le_add_right _ _⟩)
    | exact zm_zgo _ _ _ _ _ hz
theorem zm_zs_anew (pc o idx : Nat) (L : zL) (st : List Value) (h : zH) {F : zF} (hz : zs_anew pc o idx L st h = some F) : h.1 ≤ F.2.2.2.1 ∧ h.2.1 ≤ F.2.2.2.2.1 := by
  unfold zs_anew at hz
  repeat' split at hz
  all_goals first
    | (cases hz; done)
    | (cases hz; exact ⟨Nat.le_refl _, Nat.le_refl _⟩)
    | (cases hz; exact ⟨Nat.le_succ _, Nat.le_add_right _ _⟩)
    | exact zm_zgo _ _ _ _ _ hz
theorem zm_zs_new (pc o idx : Nat) (L : zL) (st : List Value) (h : zH) {F : zF} (hz : zs_new pc o idx L st h = some F) : h.1 ≤ F.2.2.2.1 ∧ h.2.1 ≤ F.2.2.2.2.1 := by
  unfold zs_new at hz
  repeat' split at hz
  all_goals first
    | (cases hz; done)
    | (cases hz; exact ⟨Nat.le_refl _, Nat.le_refl _⟩)
    | (cases hz; exact ⟨Nat.le_succ _, Nat.le_add_right _ _⟩)
    | exact zm_zgo _ _ _ _ _ hz
theorem zstep_mono {X : zX} {ini : Bool} {o pc : Nat} {L : zL} {st : List Value} {h : zH} {i : Jvm.ClassFile.Instr} {F : zF} (hs : zstep X ini o pc L st h i = some F) : h.1 ≤ F.2.2.2.1 ∧ h.2.1 ≤ F.2.2.2.2.1 := by
  cases i
  case iconst n => exact ⟨Nat.le_of_eq (congrArg (fun q : zF => q.2.2.2.1) (Option.some.inj hs)), Nat.le_of_eq (congrArg (fun q : zF => q.2.2.2.2.1) (Option.some.inj hs))⟩
  case bipush n => exact ⟨Nat.le_of_eq (congrArg (fun q : zF => q.2.2.2.1) (Option.some.inj hs)), Nat.le_of_eq (congrArg (fun q : zF => q.2.2.2.2.1) (Option.some.inj hs))⟩
  case sipush n => exact ⟨Nat.le_of_eq (congrArg (fun q : zF => q.2.2.2.1) (Option.some.inj hs)), Nat.le_of_eq (congrArg (fun q : zF => q.2.2.2.2.1) (Option.some.inj hs))⟩
  case lconst n => exact ⟨Nat.le_of_eq (congrArg (fun q : zF => q.2.2.2.1) (Option.some.inj hs)), Nat.le_of_eq (congrArg (fun q : zF => q.2.2.2.2.1) (Option.some.inj hs))⟩
  case aconst_null => exact ⟨Nat.le_of_eq (congrArg (fun q : zF => q.2.2.2.1) (Option.some.inj hs)), Nat.le_of_eq (congrArg (fun q : zF => q.2.2.2.2.1) (Option.some.inj hs))⟩
  case ldc i => exact zm_zs_ldc _ _ _ _ _ _ hs
  case ldc2_w i => exact zm_zs_ldc2 _ _ _ _ _ _ hs
  case iload_n k => exact zm_zs_il _ _ _ _ _ _ hs
  case iload k => exact zm_zs_il _ _ _ _ _ _ hs
  case lload_n k => exact zm_zs_jl _ _ _ _ _ _ hs
  case lload k => exact zm_zs_jl _ _ _ _ _ _ hs
  case aload_n k => exact zm_zs_al _ _ _ _ _ _ hs
  case aload k => exact zm_zs_al _ _ _ _ _ _ hs
  case istore_n k => exact zm_zs_is _ _ _ _ _ _ hs
  case istore k => exact zm_zs_is _ _ _ _ _ _ hs
  case lstore_n k => exact zm_zs_js _ _ _ _ _ _ hs
  case lstore k => exact zm_zs_js _ _ _ _ _ _ hs
  case astore_n k => exact zm_zs_as _ _ _ _ _ _ hs
  case astore k => exact zm_zs_as _ _ _ _ _ _ hs
  case iinc i k => exact zm_zs_inc _ _ _ _ _ _ hs
  case iadd => exact zm_zs_ii _ _ _ _ _ hs
  case isub => exact zm_zs_ii _ _ _ _ _ hs
  case imul => exact zm_zs_ii _ _ _ _ _ hs
  case iand => exact zm_zs_ii _ _ _ _ _ hs
  case ishr => exact zm_zs_ii _ _ _ _ _ hs
  case idiv => exact zm_zs_dv _ _ _ _ _ hs
  case irem => exact zm_zs_dv _ _ _ _ _ hs
  case ladd => exact zm_zs_jj _ _ _ _ _ hs
  case lmul => exact zm_zs_jj _ _ _ _ _ hs
  case land => exact zm_zs_jj _ _ _ _ _ hs
  case lor => exact zm_zs_jj _ _ _ _ _ hs
  case lcmp => exact zm_zs_jj _ _ _ _ _ hs
  case lshl => exact zm_zs_ji _ _ _ _ _ hs
  case lushr => exact zm_zs_ji _ _ _ _ _ hs
  case i2l => exact zm_zs_i1 _ _ _ _ _ hs
  case i2c => exact zm_zs_i1 _ _ _ _ _ hs
  case i2b => exact zm_zs_i1 _ _ _ _ _ hs
  case l2i => exact zm_zs_j1 _ _ _ _ _ hs
  case ifCond cd off =>
    cases cd
    case eq => exact zm_zs_if _ _ _ _ _ _ hs
    case ne => exact zm_zs_if _ _ _ _ _ _ hs
    case lt => exact zm_zs_if _ _ _ _ _ _ hs
    case ge => exact zm_zs_if _ _ _ _ _ _ hs
    case gt => exact zm_zs_if _ _ _ _ _ _ hs
    case le => exact zm_zs_if _ _ _ _ _ _ hs
  case if_icmp cd off =>
    cases cd
    case eq => exact zm_zs_ic _ _ _ _ _ _ hs
    case ne => exact zm_zs_ic _ _ _ _ _ _ hs
    case lt => exact zm_zs_ic _ _ _ _ _ _ hs
    case ge => exact zm_zs_ic _ _ _ _ _ _ hs
    case gt => exact zm_zs_ic _ _ _ _ _ _ hs
    case le => exact zm_zs_ic _ _ _ _ _ _ hs
  case ifnull off => exact zm_zs_nu _ _ _ _ _ hs
  case ifnonnull off => exact zm_zs_nn _ _ _ _ _ hs
  case goto off => exact zm_zgo _ _ _ _ _ hs
  case tableswitch d lo hi offs => exact zm_zs_tab _ _ _ _ _ _ _ _ hs
  case dup => exact zm_zs_dup _ _ _ _ hs
  case dup2 => exact zm_zs_dup2 _ _ _ _ hs
  case pop => exact zm_zs_pop _ _ _ _ hs
  case getfield i => exact zm_zs_getf _ _ _ _ _ _ hs
  case putfield i => exact zm_zs_putf _ _ _ _ _ _ _ hs
  case getstatic i => exact zm_zs_gets _ _ _ _ _ _ _ hs
  case iaload => exact zm_zs_ald _ _ _ _ _ _ hs
  case caload => exact zm_zs_ald _ _ _ _ _ _ hs
  case baload => exact zm_zs_bld _ _ _ _ _ hs
  case laload => exact zm_zs_jld _ _ _ _ hs
  case aaload => exact zm_zs_rld _ _ _ _ _ hs
  case iastore => exact zm_zs_ast _ _ _ _ _ _ hs
  case castore => exact zm_zs_ast _ _ _ _ _ _ hs
  case bastore => exact zm_zs_ast _ _ _ _ _ _ hs
  case lastore => exact zm_zs_jst _ _ _ _ hs
  case aastore => exact zm_zs_rst _ _ _ _ hs
  case arraylength => exact zm_zs_len _ _ _ _ _ hs
  case newarray cd =>
    cases cd
    case int => exact zm_zs_newa _ _ _ _ _ _ (show zs_newa pc 0 (fun n => (n, .inl (fun _ => 0))) L st h = some F from hs)
    case char => exact zm_zs_newa _ _ _ _ _ _ (show zs_newa pc 1 (fun n => (n, .inl (fun _ => 0))) L st h = some F from hs)
    case long => exact zm_zs_newa _ _ _ _ _ _ (show zs_newa pc 2 (fun n => (n, .inr (.inl (fun _ => 0)))) L st h = some F from hs)
    case boolean => exact zm_zs_newa _ _ _ _ _ _ (show zs_newa pc 3 (fun n => (n, .inl (fun _ => 0))) L st h = some F from hs)
    all_goals exact absurd (show (none : Option zF) = some F from hs) (fun q => by cases q)
  case anewarray i => exact zm_zs_anew _ _ _ _ _ _ hs
  case new i => exact zm_zs_new _ _ _ _ _ _ hs
  all_goals exact absurd (show (none : Option zF) = some F from hs) (fun q => by cases q)
theorem z_plain {l : Launch} {D : va_G} {cA : Nat → ClassId} {ad : Nat → Nat} {base : Nat} {X : zX} {d j pc : Nat} {L : zL} {st : List Value} {h : zH} {v : Option Value} {h' : zH} {i : Jvm.ClassFile.Instr} {F : zF} (hi : zins j pc = some i) (hs : zstep X (zini j) (zown j) pc L st h i = some F) (hk0 : zS l D cA ad base X d j F.1 F.2.1 F.2.2.1 F.2.2.2 v h') : zS l D cA ad base X d j pc L st h v h' := by
  have hm := zstep_mono hs
  refine ⟨⟨Nat.le_trans hm.1 hk0.1.1, Nat.le_trans hm.2 hk0.1.2⟩, ?_⟩
  intro p e R s m args below meth c Q c0 s0 hC hf hlo hRc0 hRs0 hR
  have hk : zGo p l e R s m args below meth c Q D classes cA ad base (zmaxL j) c0 s0 F := hk0.2 p e R s m args below meth c Q c0 s0 hC hf hlo hRc0 hRs0 hR
  obtain ⟨hx, hb, hml, hown, hcore, hname, hE⟩ := hC
  have hRc : F.2.2.2.1 ≤ c0 + R.cells := Nat.le_trans hk0.1.1 hRc0
  have hRs : F.2.2.2.2.1 ≤ s0 + R.slots := Nat.le_trans hk0.1.2 hRs0
  have hini : zini j = true → meth.name = "<init>" := fun q => by rw [hname]; exact zini_ok q
  cases i
  case iconst n => exact zo_iconst hx hb (zins_dec hi (show (1 : Nat) ≠ 0 by decide)) hs hk
  case bipush n => exact zo_bipush hx hb (zins_dec hi (show (2 : Nat) ≠ 0 by decide)) hs hk
  case sipush n => exact zo_sipush hx hb (zins_dec hi (show (3 : Nat) ≠ 0 by decide)) hs hk
  case lconst n => exact zo_lconst hx hb (zins_dec hi (show (1 : Nat) ≠ 0 by decide)) hs hk
  case aconst_null => exact zo_anull hx hb (zins_dec hi (show (1 : Nat) ≠ 0 by decide)) hs hk
  case ldc i => exact zo_ldc hx hb hown (fun v hv => zld_ok hcore hE hv) (zins_dec hi (show (2 : Nat) ≠ 0 by decide)) hs hk
  case ldc2_w i => exact zo_ldc2 hx hb hown (fun v hv => zl2_ok hcore hv) (zins_dec hi (show (3 : Nat) ≠ 0 by decide)) hs hk
  case iload_n k => exact zo_iload_n hx hb (zins_dec hi (show (1 : Nat) ≠ 0 by decide)) hs hk
  case iload k => exact zo_iload hx hb (zins_dec hi (show (2 : Nat) ≠ 0 by decide)) hs hk
  case lload_n k => exact zo_lload_n hx hb (zins_dec hi (show (1 : Nat) ≠ 0 by decide)) hs hk
  case lload k => exact zo_lload hx hb (zins_dec hi (show (2 : Nat) ≠ 0 by decide)) hs hk
  case aload_n k => exact zo_aload_n hx hb (zins_dec hi (show (1 : Nat) ≠ 0 by decide)) hs hk
  case aload k => exact zo_aload hx hb (zins_dec hi (show (2 : Nat) ≠ 0 by decide)) hs hk
  case istore_n k => exact zo_istore_n hx hb (zins_dec hi (show (1 : Nat) ≠ 0 by decide)) hs hk
  case istore k => exact zo_istore hx hb (zins_dec hi (show (2 : Nat) ≠ 0 by decide)) hs hk
  case lstore_n k => exact zo_lstore_n hx hb (zins_dec hi (show (1 : Nat) ≠ 0 by decide)) hs hk
  case lstore k => exact zo_lstore hx hb (zins_dec hi (show (2 : Nat) ≠ 0 by decide)) hs hk
  case astore_n k => exact zo_astore_n hx hb (zins_dec hi (show (1 : Nat) ≠ 0 by decide)) hs hk
  case astore k => exact zo_astore hx hb (zins_dec hi (show (2 : Nat) ≠ 0 by decide)) hs hk
  case iinc i k => exact zo_iinc hx hb (zins_dec hi (show (3 : Nat) ≠ 0 by decide)) hs hk
  case iadd => exact zo_iadd hx hb (zins_dec hi (show (1 : Nat) ≠ 0 by decide)) hs hk
  case isub => exact zo_isub hx hb (zins_dec hi (show (1 : Nat) ≠ 0 by decide)) hs hk
  case imul => exact zo_imul hx hb (zins_dec hi (show (1 : Nat) ≠ 0 by decide)) hs hk
  case iand => exact zo_iand hx hb (zins_dec hi (show (1 : Nat) ≠ 0 by decide)) hs hk
  case ishr => exact zo_ishr hx hb (zins_dec hi (show (1 : Nat) ≠ 0 by decide)) hs hk
  case idiv => exact zo_idiv hx hb (zins_dec hi (show (1 : Nat) ≠ 0 by decide)) hs hk
  case irem => exact zo_irem hx hb (zins_dec hi (show (1 : Nat) ≠ 0 by decide)) hs hk
  case ladd => exact zo_ladd hx hb (zins_dec hi (show (1 : Nat) ≠ 0 by decide)) hs hk
  case lmul => exact zo_lmul hx hb (zins_dec hi (show (1 : Nat) ≠ 0 by decide)) hs hk
  case land => exact zo_land hx hb (zins_dec hi (show (1 : Nat) ≠ 0 by decide)) hs hk
  case lor => exact zo_lor hx hb (zins_dec hi (show (1 : Nat) ≠ 0 by decide)) hs hk
  case lcmp => exact zo_lcmp hx hb (zins_dec hi (show (1 : Nat) ≠ 0 by decide)) hs hk
  case lshl => exact zo_lshl hx hb (zins_dec hi (show (1 : Nat) ≠ 0 by decide)) hs hk
  case lushr => exact zo_lushr hx hb (zins_dec hi (show (1 : Nat) ≠ 0 by decide)) hs hk
  case i2l => exact zo_i2l hx hb (zins_dec hi (show (1 : Nat) ≠ 0 by decide)) hs hk
  case i2c => exact zo_i2c hx hb (zins_dec hi (show (1 : Nat) ≠ 0 by decide)) hs hk
  case i2b => exact zo_i2b hx hb (zins_dec hi (show (1 : Nat) ≠ 0 by decide)) hs hk
  case l2i => exact zo_l2i hx hb (zins_dec hi (show (1 : Nat) ≠ 0 by decide)) hs hk
  case ifCond cd off =>
    cases cd
    case eq => exact zo_if_eq hx hb (zins_dec hi (show (3 : Nat) ≠ 0 by decide)) hs hk
    case ne => exact zo_if_ne hx hb (zins_dec hi (show (3 : Nat) ≠ 0 by decide)) hs hk
    case lt => exact zo_if_lt hx hb (zins_dec hi (show (3 : Nat) ≠ 0 by decide)) hs hk
    case ge => exact zo_if_ge hx hb (zins_dec hi (show (3 : Nat) ≠ 0 by decide)) hs hk
    case gt => exact zo_if_gt hx hb (zins_dec hi (show (3 : Nat) ≠ 0 by decide)) hs hk
    case le => exact zo_if_le hx hb (zins_dec hi (show (3 : Nat) ≠ 0 by decide)) hs hk
  case if_icmp cd off =>
    cases cd
    case eq => exact zo_icmp_eq hx hb (zins_dec hi (show (3 : Nat) ≠ 0 by decide)) hs hk
    case ne => exact zo_icmp_ne hx hb (zins_dec hi (show (3 : Nat) ≠ 0 by decide)) hs hk
    case lt => exact zo_icmp_lt hx hb (zins_dec hi (show (3 : Nat) ≠ 0 by decide)) hs hk
    case ge => exact zo_icmp_ge hx hb (zins_dec hi (show (3 : Nat) ≠ 0 by decide)) hs hk
    case gt => exact zo_icmp_gt hx hb (zins_dec hi (show (3 : Nat) ≠ 0 by decide)) hs hk
    case le => exact zo_icmp_le hx hb (zins_dec hi (show (3 : Nat) ≠ 0 by decide)) hs hk
  case ifnull off => exact zo_ifnull hx hb (zins_dec hi (show (3 : Nat) ≠ 0 by decide)) hs hk
  case ifnonnull off => exact zo_ifnonnull hx hb (zins_dec hi (show (3 : Nat) ≠ 0 by decide)) hs hk
  case goto off => exact zo_goto hx hb (zins_dec hi (show (3 : Nat) ≠ 0 by decide)) hs hk
  case tableswitch d lo hi offs => exact (by obtain ⟨len, hd, -⟩ := zins_any hi; exact zo_tableswitch hx hb hd hs hk)
  case dup => exact zo_dup hx hb (zins_dec hi (show (1 : Nat) ≠ 0 by decide)) hs hk
  case dup2 => exact zo_dup2 hx hb (zins_dec hi (show (1 : Nat) ≠ 0 by decide)) hs hk
  case pop => exact zo_pop hx hb (zins_dec hi (show (1 : Nat) ≠ 0 by decide)) hs hk
  case getfield i => exact zo_getf hx hb hown hcore hE.2.2.1 (fun ci k ne q => zfl_get hcore hE q) (fun a v q => zkf_ok hcore hE q) (zins_dec hi (show (3 : Nat) ≠ 0 by decide)) hs hk
  case putfield i => exact zo_putf hx hb hown hcore hE.2.2.1 (fun ci k ne q1 q2 => zfl_put hcore hE hini q1 q2) (zins_dec hi (show (3 : Nat) ≠ 0 by decide)) hs hk
  case getstatic i => exact zo_gets hx hb hown (fun q hq => zsl_ok hcore hE hq) (zins_dec hi (show (3 : Nat) ≠ 0 by decide)) hs hk
  case iaload => exact zo_iaload hx hb hE.2.2.1 hE.2.2.2.2.2.2.2.2.1 (zins_dec hi (show (1 : Nat) ≠ 0 by decide)) hs hk
  case caload => exact zo_caload hx hb hE.2.2.1 hE.2.2.2.2.2.2.2.2.1 (zins_dec hi (show (1 : Nat) ≠ 0 by decide)) hs hk
  case baload => exact zo_baload hx hb hE.2.2.1 hE.2.2.2.2.2.2.2.2.1 (zins_dec hi (show (1 : Nat) ≠ 0 by decide)) hs hk
  case laload => exact zo_laload hx hb hE.2.2.1 (zins_dec hi (show (1 : Nat) ≠ 0 by decide)) hs hk
  case aaload => exact zo_aaload hx hb hE.2.2.1 hE.2.2.2.2.2.2.2.2.1 (zins_dec hi (show (1 : Nat) ≠ 0 by decide)) hs hk
  case iastore => exact zo_iastore hx hb hE.2.2.1 (zins_dec hi (show (1 : Nat) ≠ 0 by decide)) hs hk
  case castore => exact zo_castore hx hb hE.2.2.1 (zins_dec hi (show (1 : Nat) ≠ 0 by decide)) hs hk
  case bastore => exact zo_bastore hx hb hE.2.2.1 (zins_dec hi (show (1 : Nat) ≠ 0 by decide)) hs hk
  case lastore => exact zo_lastore hx hb hE.2.2.1 (zins_dec hi (show (1 : Nat) ≠ 0 by decide)) hs hk
  case aastore => exact zo_aastore hx hb hE.2.2.1 rfl rfl (zins_dec hi (show (1 : Nat) ≠ 0 by decide)) hs hk
  case arraylength => exact zo_len hx hb hE.2.2.1 hE.2.2.2.2.2.2.2.2.1 (zins_dec hi (show (1 : Nat) ≠ 0 by decide)) hs hk
  case newarray cd =>
    cases cd
    case int => exact zo_newa_int hx hb hE.2.2.1 hE.2.2.2.1 (hcore _ zarr_int) hRc hRs (zins_dec hi (show (2 : Nat) ≠ 0 by decide)) (show zs_newa pc 0 (fun n => (n, .inl (fun _ => 0))) L st h = some F from hs) hk
    case char => exact zo_newa_char hx hb hE.2.2.1 hE.2.2.2.1 (hcore _ zarr_char) hRc hRs (zins_dec hi (show (2 : Nat) ≠ 0 by decide)) (show zs_newa pc 1 (fun n => (n, .inl (fun _ => 0))) L st h = some F from hs) hk
    case long => exact zo_newa_long hx hb hE.2.2.1 hE.2.2.2.1 (hcore _ zarr_long) hRc hRs (zins_dec hi (show (2 : Nat) ≠ 0 by decide)) (show zs_newa pc 2 (fun n => (n, .inr (.inl (fun _ => 0)))) L st h = some F from hs) hk
    case boolean => exact zo_newa_boolean hx hb hE.2.2.1 hE.2.2.2.1 (hcore _ zarr_boolean) hRc hRs (zins_dec hi (show (2 : Nat) ≠ 0 by decide)) (show zs_newa pc 3 (fun n => (n, .inl (fun _ => 0))) L st h = some F from hs) hk
    all_goals exact absurd (show (none : Option zF) = some F from hs) (fun q => by cases q)
  case anewarray i => exact zo_anew hx hb hown hE.2.2.1 hE.2.2.2.1 (fun q => zal_ok hcore hE q) hRc hRs (zins_dec hi (show (3 : Nat) ≠ 0 by decide)) hs hk
  case new i => exact zo_new hx hb hown hcore hE.2.2.1 hE.2.2.2.1 (fun ci q => zcl_ok hcore q) hRc hRs (zins_dec hi (show (3 : Nat) ≠ 0 by decide)) hs hk
  all_goals exact absurd (show (none : Option zF) = some F from hs) (fun q => by cases q)
