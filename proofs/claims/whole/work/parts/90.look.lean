theorem look0 : True := by
  have := @ev_X7_stuck
  have := @ev_X7_goesOn_
  trivial
