abbrev vwCl : List vw_C := [(RX0, TX0, 12), (RX1, TX1, 13)]

