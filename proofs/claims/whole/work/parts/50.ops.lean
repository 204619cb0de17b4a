def Op_go (N : Nat) (Inv : Hp → Prop) : Prop := ∀ (z : Hp) (a1 : Int32), Inv z → ∃ r z1 z2, fX11_go N 0 a1 z = some (r, z1) ∧ (17 < zn z1 ∧ zK z1 17 = 11) ∧ fX12_go N 17 a1 z1 = some (r, z2) ∧ Inv z2
def Op_baker (N : Nat) (Inv : Hp → Prop) : Prop := ∀ (z : Hp), Inv z → ∃ r z1 z2, fX11_baker N 0 z = some (r, z1) ∧ (17 < zn z1 ∧ zK z1 17 = 11) ∧ fX12_baker N 17 z1 = some (r, z2) ∧ Inv z2
def Op_buy (N : Nat) (Inv : Hp → Prop) : Prop := ∀ (z : Hp) (a1 a2 a3 : Int32), Inv z → ∃ r z1 z2, fX11_buy N 0 a1 a2 a3 z = some (r, z1) ∧ (17 < zn z1 ∧ zK z1 17 = 11) ∧ fX12_buy N 17 a1 a2 a3 z1 = some (r, z2) ∧ Inv z2
def Op_grind (N : Nat) (Inv : Hp → Prop) : Prop := ∀ (z : Hp) (a1 : Int32), Inv z → ∃ r z1 z2, fX11_grind N 0 a1 z = some (r, z1) ∧ (17 < zn z1 ∧ zK z1 17 = 11) ∧ fX12_grind N 17 a1 z1 = some (r, z2) ∧ Inv z2
def Op_dish (N : Nat) (Inv : Hp → Prop) : Prop := ∀ (z : Hp) (a1 : Int32), Inv z → ∃ r z1 z2, fX11_dish N 0 a1 z = some (r, z1) ∧ (17 < zn z1 ∧ zK z1 17 = 11) ∧ fX12_dish N 17 a1 z1 = some (r, z2) ∧ Inv z2
def Op_price (N : Nat) (Inv : Hp → Prop) : Prop := ∀ (z : Hp) (a1 : Int32), Inv z → ∃ r, fX11_price N 0 a1 z = some r ∧ fX12_price N 17 a1 z = some r
def Op_text (N : Nat) (Inv : Hp → Prop) : Prop := ∀ (z : Hp) (a1 a2 a3 a4 a5 : Int32), Inv z → ∃ r z1 z2, fX11_text N 0 a1 a2 a3 a4 a5 z = some (r, z1) ∧ (17 < zn z1 ∧ zK z1 17 = 11) ∧ fX12_text N 17 a1 a2 a3 a4 a5 z1 = some (r, z2) ∧ Inv z2
def Op_step (N : Nat) (Inv : Hp → Prop) : Prop := ∀ (z : Hp) (a1 a2 a3 : Int32), Inv z → ∃ r z1 z2, fX11_step N 0 a1 a2 a3 z = some (r, z1) ∧ (17 < zn z1 ∧ zK z1 17 = 11) ∧ fX12_step N 17 a1 a2 a3 z1 = some (r, z2) ∧ Inv z2
def Op_inForce (N : Nat) (Inv : Hp → Prop) : Prop := ∀ (z : Hp) (a1 : Int32), Inv z → ∃ r, fX11_inForce N 0 a1 z = some r ∧ fX12_inForce N 17 a1 z = some r
def Op_due (N : Nat) (Inv : Hp → Prop) : Prop := ∀ (z : Hp) (a1 a2 : Int32), Inv z → ∃ r, fX11_due N 0 a1 a2 z = some r ∧ fX12_due N 17 a1 a2 z = some r
def Op_bake (N : Nat) (Inv : Hp → Prop) : Prop := ∀ (z : Hp) (a1 a2 a3 a4 : Int32), Inv z → ∃ r z1 z2, fX11_bake N 0 a1 a2 a3 a4 z = some (r, z1) ∧ (17 < zn z1 ∧ zK z1 17 = 11) ∧ fX12_bake N 17 a1 a2 a3 a4 z1 = some (r, z2) ∧ Inv z2
def Op_search (N : Nat) (Inv : Hp → Prop) : Prop := ∀ (z : Hp), Inv z → ∃ r z1 z2, fX11_search N 0 z = some (r, z1) ∧ (17 < zn z1 ∧ zK z1 17 = 11) ∧ fX12_search N 17 z1 = some (r, z2) ∧ Inv z2
def Op_turn (N : Nat) (Inv : Hp → Prop) : Prop := ∀ (z : Hp), Inv z → ∃ r z1 z2, fX11_turn N 0 z = some (r, z1) ∧ (17 < zn z1 ∧ zK z1 17 = 11) ∧ fX12_turn N 17 z1 = some (r, z2) ∧ Inv z2
def Op_rules (N : Nat) (Inv : Hp → Prop) : Prop := ∀ (z : Hp) (a1 a2 : Int32), Inv z → ∃ r z1 z2, fX11_rules N 0 a1 a2 z = some (r, z1) ∧ (17 < zn z1 ∧ zK z1 17 = 11) ∧ fX12_rules N 17 a1 a2 z1 = some (r, z2) ∧ Inv z2
def Op_record (N : Nat) (Inv : Hp → Prop) : Prop := ∀ (z : Hp) (a1 a2 : Int32), Inv z → ∃ r, fX11_record N 0 a1 a2 z = some r ∧ fX12_record N 17 a1 a2 z = some r
def Op_lot (N : Nat) (Inv : Hp → Prop) : Prop := ∀ (z : Hp) (a1 a2 : Int32), Inv z → ∃ r, fX11_lot N 0 a1 a2 z = some r ∧ fX12_lot N 17 a1 a2 z = some r
def Op_batch (N : Nat) (Inv : Hp → Prop) : Prop := ∀ (z : Hp) (a1 a2 : Int32), Inv z → ∃ r, fX11_batch N 0 a1 a2 z = some r ∧ fX12_batch N 17 a1 a2 z = some r
def Op_found (N : Nat) (Inv : Hp → Prop) : Prop := ∀ (z : Hp) (a1 a2 : Int32), Inv z → ∃ r, fX11_found N 0 a1 a2 z = some r ∧ fX12_found N 17 a1 a2 z = some r
def Op_about (N : Nat) (Inv : Hp → Prop) : Prop := ∀ (z : Hp) (a1 a2 : Int32), Inv z → ∃ r, fX11_about N 0 a1 a2 z = some r ∧ fX12_about N 17 a1 a2 z = some r
def Op_store (N : Nat) (Inv : Hp → Prop) : Prop := ∀ (z : Hp) (a1 : Int32), Inv z → ∃ r z1 z2, fX11_store N 0 a1 z = some (r, z1) ∧ (17 < zn z1 ∧ zK z1 17 = 11) ∧ fX12_store N 17 a1 z1 = some (r, z2) ∧ Inv z2
def Op_mouths (N : Nat) (Inv : Hp → Prop) : Prop := ∀ (z : Hp) (a1 a2 : Int32), Inv z → ∃ r z1 z2, fX11_mouths N 0 a1 a2 z = some (r, z1) ∧ (17 < zn z1 ∧ zK z1 17 = 11) ∧ fX12_mouths N 17 a1 a2 z1 = some (r, z2) ∧ Inv z2
def Op_ration (N : Nat) (Inv : Hp → Prop) : Prop := ∀ (z : Hp) (a1 : Int32), Inv z → ∃ r z1 z2, fX11_ration N 0 a1 z = some (r, z1) ∧ (17 < zn z1 ∧ zK z1 17 = 11) ∧ fX12_ration N 17 a1 z1 = some (r, z2) ∧ Inv z2
def Op_harvest (N : Nat) (Inv : Hp → Prop) : Prop := ∀ (z : Hp) (a1 a2 : Int32), Inv z → ∃ r z1 z2, fX11_harvest N 0 a1 a2 z = some (r, z1) ∧ (17 < zn z1 ∧ zK z1 17 = 11) ∧ fX12_harvest N 17 a1 a2 z1 = some (r, z2) ∧ Inv z2
def Op_foretell (N : Nat) (Inv : Hp → Prop) : Prop := ∀ (z : Hp) (a1 : Int32), Inv z → ∃ r, fX11_foretell N 0 a1 z = some r ∧ fX12_foretell N 17 a1 z = some r
def Op_order (N : Nat) (Inv : Hp → Prop) : Prop := ∀ (z : Hp) (a1 : Int32), Inv z → ∃ r, fX11_order N 0 a1 z = some r ∧ fX12_order N 17 a1 z = some r
def Op_told (N : Nat) (Inv : Hp → Prop) : Prop := ∀ (z : Hp) (a1 : Int32), Inv z → ∃ r, fX11_told N 0 a1 z = some r ∧ fX12_told N 17 a1 z = some r
def Ops (N : Nat) (Inv : Hp → Prop) : Prop := Op_go N Inv ∧ Op_baker N Inv ∧ Op_buy N Inv ∧ Op_grind N Inv ∧ Op_dish N Inv ∧ Op_price N Inv ∧ Op_text N Inv ∧ Op_step N Inv ∧ Op_inForce N Inv ∧ Op_due N Inv ∧ Op_bake N Inv ∧ Op_search N Inv ∧ Op_turn N Inv ∧ Op_rules N Inv ∧ Op_record N Inv ∧ Op_lot N Inv ∧ Op_batch N Inv ∧ Op_found N Inv ∧ Op_about N Inv ∧ Op_store N Inv ∧ Op_mouths N Inv ∧ Op_ration N Inv ∧ Op_harvest N Inv ∧ Op_foretell N Inv ∧ Op_order N Inv ∧ Op_told N Inv ∧ (∀ z, Inv z → (0 < zn z ∧ zK z 0 = 10) ∧ (17 < zn z ∧ zK z 17 = 11))
def z00 : Hp := (0, (fun _ => 0), (fun _ => 0), (fun _ _ => 0), (fun _ _ => none), (fun _ _ => 0), (fun _ _ => 0), (fun _ _ => none))
def OpInit (N : Nat) (Inv : Hp → Prop) : Prop := ∃ z1 z2, fX11_init N 0 (zal z00 10 0) = some z1 ∧ zn z1 = 17 ∧ fX12_init N 17 (zal z1 11 0) = some z2 ∧ Inv z2
