/** Complexes that the tests have in common. */
final class Samples {
    private Samples() {
    }

    static ShellPeel none() {
        return new ShellPeel();
    }

    /** Three edges in a path, told in an order that is no shelling: 0 ab, 1 cd, 2 bc. */
    static ShellPeel path() {
        return Checks.made(4, 2, "ab cd bc");
    }

    static ShellPeel square() {
        return Checks.made(4, 2, "ab bc cd ad");
    }

    /** All triangles of four points. */
    static ShellPeel sphere() {
        return Checks.made(4, 3, "abc abd acd bcd");
    }

    /** Two triangles that have one point in common. */
    static ShellPeel bowtie() {
        return Checks.made(5, 3, "abc cde");
    }

    static ShellPeel dots() {
        return Checks.made(3, 1, "a b c");
    }

    static ShellPeel lone() {
        return Checks.made(3, 3, "abc");
    }

    /** One edge, with two points beside it in no facet. */
    static ShellPeel idle() {
        return Checks.made(4, 2, "ab");
    }

    static ShellPeel projective() {
        return Checks.made(6, 3, "abe abf acd acf ade bcd bce bdf cef def");
    }

    /** Shelled, but some beginnings go no further. */
    static ShellPeel blocked() {
        return Checks.made(6, 3, "abe bde bdf def ace abf adf cef acd");
    }

    /** Shelled, but it doesn't fall apart. */
    static ShellPeel firm() {
        return Checks.made(6, 3, "acd ade bde bef bdf cdf bcf ace acf abe");
    }

    static ShellPeel full() {
        return Checks.made(7, 2, "ab ac ad ae af ag bc bd be bf bg cd");
    }

    /** The smallest complex there is. */
    static ShellPeel point() {
        return Checks.made(1, 1, "a");
    }

    /** As many points, as large a size and as many facets as there can be. */
    static ShellPeel broad() {
        return Checks.made(7, 5, "abcde abcdf abcdg abcef abceg abcfg abdef abdeg abdfg abefg acdef acdeg");
    }

    /** The path, its order a shelling other than by numbers: 1 cd, 2 bc, 0 ab. */
    static ShellPeel moved() {
        ShellPeel x = path();
        x.move(0, 2);
        return x;
    }

    /** Each facet is near those beside it alone. */
    static ShellPeel snake() {
        return Checks.made(7, 3, "abc abf afg dfg cdf cef ceg beg bde ade");
    }

    /** Seven triangles, each two of which have one point in common: none joins those ahead. */
    static ShellPeel plane() {
        return Checks.made(7, 3, "abc ade afg bdf beg cdg cef");
    }

    /** The last facet leaps over each of the others by another pair of points. */
    static ShellPeel fan() {
        return Checks.made(7, 5, "cdefg bdefg bcefg bcdfg adefg acefg acdfg abefg abdfg abcfg abcde");
    }

    /** All sets of five of six points. */
    static ShellPeel fives() {
        return Checks.made(6, 5, "abcde abcdf abcef abdef acdef bcdef");
    }
}
