/-! ===== how all begins ===== -/
abbrev z0 : Int → Int := fun _ => 0
def Mc0 : McS := (0, z0, z0, z0, z0, z0)
def Lo0 : LoS := (0, z0, z0, z0, z0)
def Lv0 : LvS := fun _ => 0
def Mt0 : MtS := (0, z0, z0, z0, z0, z0, z0)
def Bu0 : BuS := (0, z0, z0, z0, z0, z0, z0, z0)
def Sw0 : SwS := (0, z0, z0, z0, z0, z0, z0)
def To0 : ToS := (0, z0, z0, z0, z0, z0, z0)
def Pl0 : PlS := (Mc0, Lo0, Lv0, Mt0, Bu0, 0)
def Ri0 : RiS := (Pl0, Pl0, To0, Sw0)
theorem z0_0 : zR0 0 := by decide
theorem z0_1 : zR 0 := by decide
theorem z0_2 : zR2 0 := by decide
theorem z0_s : (0 : Int) ≤ 0 ∧ (0 : Int) ≤ 2 := by decide
theorem Mc0_I : McI Mc0 := ⟨⟨Int.le_refl 0, by decide⟩, fun _ => ⟨z0_2, z0_1, z0_0, z0_2, (by decide : (-1 : Int) ≤ 0 ∧ (0 : Int) ≤ 40)⟩⟩
theorem Lo0_I : LoI Lo0 := ⟨⟨Int.le_refl 0, by decide⟩, fun _ => ⟨z0_2, z0_1, z0_1, z0_1⟩⟩
theorem Lv0_I : LvI Lv0 := fun _ => (by decide : 0 < 2 ^ 50)
theorem Mt0_I : MtI Mt0 := ⟨⟨Int.le_refl 0, by decide⟩, fun _ => ⟨z0_2, z0_0, z0_0, z0_1, z0_s⟩⟩
theorem Bu0_I : BuI Bu0 := ⟨⟨Int.le_refl 0, by decide⟩, fun _ => ⟨z0_2, z0_1, z0_0, z0_s, z0_1, z0_1⟩⟩
theorem Sw0_I : SwI Sw0 := ⟨⟨Int.le_refl 0, by decide⟩, fun _ => ⟨(by decide : (0 : Int) ≤ 0 ∧ (0 : Int) ≤ 30), (by decide : (0 : Int) ≤ 0 ∧ (0 : Int) ≤ 30), z0_2, z0_s⟩⟩
theorem To0_I : ToI To0 := ⟨⟨Int.le_refl 0, by decide⟩, fun _ => ⟨(by decide : (0 : Int) ≤ 0 ∧ (0 : Int) ≤ 9), (by decide : (0 : Int) ≤ 0 ∧ (0 : Int) ≤ 400), z0_2, z0_0, z0_0, z0_1⟩⟩
theorem Pl0_I : PlI Pl0 := ⟨Mc0_I, Lo0_I, Lv0_I, Mt0_I, Bu0_I, ⟨Int.le_refl 0, by decide⟩⟩
theorem Ri0_I : RiI Ri0 := ⟨Pl0_I, Pl0_I, To0_I, Sw0_I⟩
