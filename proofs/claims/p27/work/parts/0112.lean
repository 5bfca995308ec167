section
variable {A0 : pm_H} {g : pm_G} {h : Nat} {q : Nat → Nat} {v : Nat → Int32} {f : Nat → Nat → Int32}
theorem md_p_edits (D : md_D h q) (x : Int32) : pm_up (md A0 g h q v f) h (pm_ob 11 ((md_fs q v).set 11 (.int x))) = md A0 g h q (upd v 4 x) f := md_pt D rfl
theorem md_p_touchedAll (D : md_D h q) (x : Int32) : pm_up (md A0 g h q v f) h (pm_ob 11 ((md_fs q v).set 12 (.int x))) = md A0 g h q (upd v 5 x) f := md_pt D rfl
theorem md_p_askedMany (D : md_D h q) (x : Int32) : pm_up (md A0 g h q v f) h (pm_ob 11 ((md_fs q v).set 17 (.int x))) = md A0 g h q (upd v 6 x) f := md_pt D rfl
theorem md_p_shelfSet (D : md_D h q) (x : Int32) : pm_up (md A0 g h q v f) h (pm_ob 11 ((md_fs q v).set 24 (.int x))) = md A0 g h q (upd v 7 x) f := md_pt D rfl
end
