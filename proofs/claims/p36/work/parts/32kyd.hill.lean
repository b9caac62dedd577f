section XUD
theorem xud_none : True := trivial
end XUD
