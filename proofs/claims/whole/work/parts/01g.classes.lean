abbrev vwCl : List vw_C := [(RX0, TX0, 13), (RX1, TX1, 17)]
