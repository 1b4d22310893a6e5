/** Texts, with the fault and the place that are due. */
public final class FaultsTest {
    private static final Checks C = new Checks();
    private static final String HEAD = "complex points 4 size 2";

    public static void main(String[] args) {
        form();
        tokens();
        bounds();
        odd();
        again();
        many();
        lacks();
        good();
        C.end("FaultsTest");
    }

    private static void fault(String text, int fault, int place) {
        ShellPeel x = new ShellPeel();
        C.due("'" + text + "' complex()", x, Checks.tell(x, text), -1, 4);
        C.due("'" + text + "' fault()", x.fault(), fault);
        C.due("'" + text + "' where()", x.where(), place);
        C.due("'" + text + "' is no complex", x.about(2), -1);
    }

    private static void told(String text, int facets) {
        ShellPeel x = new ShellPeel();
        C.due("'" + text + "' complex()", x, Checks.tell(x, text), facets, 0);
        C.due("'" + text + "' fault()", x.fault(), 0);
    }

    private static void form() {
        fault("", 1, 0);
        fault("   ", 1, 3);
        fault(";", 1, 0);
        fault("7", 1, 0);
        fault("points 4", 1, 0);
        fault("complex", 1, 7);
        fault("complex  ", 1, 9);
        fault("complex 4", 1, 8);
        fault("complex size 2", 1, 8);
        fault("complex complex", 1, 8);
        fault("complex points", 1, 14);
        fault("complex points a", 1, 15);
        fault("complex points ;", 1, 15);
        fault("complex points 4", 1, 16);
        fault("complex points 4;", 1, 16);
        fault("complex points 4 points", 1, 17);
        fault("complex points 4 size", 1, 21);
        fault("complex points 4 size b", 1, 22);
        fault(HEAD + ";", 1, 24);
        fault(HEAD + "; ", 1, 25);
        fault(HEAD + " facet ab", 1, 24);
        fault(HEAD + ";;facet ab", 1, 24);
        fault(HEAD + ";facet", 1, 29);
        fault(HEAD + ";facet 2", 1, 30);
        fault(HEAD + ";facet;", 1, 29);
        fault(HEAD + ";facet ab cd", 1, 33);
        fault(HEAD + ";facet ab;", 1, 33);
        fault(HEAD + ";facets ab", 1, 24);
        fault(HEAD + ";face ab", 1, 24);
        fault(HEAD + ";facet ab 2", 1, 33);
        // Words that are as long as those that are due.
        fault("domplex points 4 size 2;facet ab", 1, 0);
        fault("complez points 4 size 2;facet ab", 1, 0);
        fault("complex pounts 4 size 2;facet ab", 1, 8);
        fault("complex points 4 sizf 2;facet ab", 1, 17);
        fault(HEAD + ";faset ab", 1, 24);
    }

    private static void tokens() {
        fault("#", 1, 0);
        fault("Complex points 4 size 2", 1, 0);
        fault("complex" + (char) 9 + "points 4 size 2", 1, 7);
        fault("complex points 4, size 2", 1, 16);
        fault(HEAD + (char) 0, 1, 23);
        fault(HEAD + (char) 225, 1, 23);
        fault(HEAD + ";facet aB", 3, 30);
        fault(HEAD + ";facet ab`", 1, 32);
        fault(HEAD + ";facet ab{", 1, 32);
        fault(HEAD + ";facet ab:", 1, 32);
        fault(HEAD + ";facet ab/", 1, 32);
        // More letters or digits together than a token has begin none.
        fault("complexes points 4 size 2", 1, 0);
        fault("complexpoints 4 size 2", 1, 0);
        fault("complex points 004 size 2", 1, 15);
        fault("complex points 4 size 222", 1, 22);
        fault(HEAD + ";facet abcdefgh", 1, 30);
        fault(HEAD + ";facet ab;facet abcdefgh", 1, 39);
        // A fault on the left of a byte that begins no token is met first.
        fault("complex points 9 #", 2, 15);
        fault("facet ab #", 6, 0);
    }

    private static void bounds() {
        fault("complex points 0 size 1", 2, 15);
        fault("complex points 00 size 1", 2, 15);
        fault("complex points 8 size 1", 2, 15);
        fault("complex points 99 size 1", 2, 15);
        fault("complex points 7 size 6;facet abcdef", 2, 22);
        fault("complex points 4 size 5;facet abcde", 2, 22);
        fault("complex points 4 size 0", 2, 22);
        fault("complex points 4 size 12", 2, 22);
        fault("complex points 8", 2, 15);
    }

    private static void odd() {
        fault(HEAD + ";facet ae", 3, 30);
        fault(HEAD + ";facet az", 3, 30);
        fault(HEAD + ";facet aa", 3, 30);
        fault(HEAD + ";facet a", 3, 30);
        fault(HEAD + ";facet abc", 3, 30);
        fault(HEAD + ";facet abb", 3, 30);
        fault(HEAD + ";facet facet", 3, 30);
        fault(HEAD + ";facet complex", 3, 30);
        fault(HEAD + ";facet   abc #", 3, 32);
        fault(HEAD + ";facet ab;facet aba", 3, 39);
        fault("complex points 2 size 1;facet c", 3, 30);
        fault("complex points 2 size 1;facet aa", 3, 30);
        fault("complex points 2 size 1;facet ab", 3, 30);
    }

    private static void again() {
        fault(HEAD + ";facet ab;facet ab", 4, 39);
        fault(HEAD + ";facet ab;facet ba", 4, 39);
        fault(HEAD + ";facet ab;facet cd;facet ba;facet ee", 4, 48);
        fault(HEAD + ";complex", 4, 24);
        fault(HEAD + "; complex points 9", 4, 25);
        fault(HEAD + ";facet ab;complex points 4 size 2", 4, 33);
    }

    private static void many() {
        String twelve = "complex points 7 size 2;facet ab;facet ac;facet ad;facet ae;facet af;facet ag"
            + ";facet bc;facet bd;facet be;facet bf;facet bg;facet cd";
        told(twelve, 12);
        fault(twelve + ";facet ce", 5, twelve.length() + 1);
        fault(twelve + "; facet", 5, twelve.length() + 2);
        fault(twelve + ";facet ab", 5, twelve.length() + 1);
        fault(twelve + ";facet #", 5, twelve.length() + 1);
        fault(twelve + ";complex", 4, twelve.length() + 1);
        fault(twelve + ";", 1, twelve.length() + 1);
    }

    private static void lacks() {
        fault("facet", 6, 0);
        fault("  facet ab;complex points 4 size 2", 6, 2);
        fault("facet ab", 6, 0);
        fault(HEAD, 6, 23);
        fault(HEAD + "  ", 6, 25);
    }

    private static void good() {
        told(HEAD + ";facet ab", 1);
        told("  complex   points 4   size 2 ; facet  ab ;facet ba".substring(0, 42), 1);
        told("complex points4size2;facet ab", 1);
        told("complex points 04 size 02;facet dc;facet ab", 2);
        told("complex points 7 size 5;facet gfedc", 1);
        told("complex points 1 size 1;facet a", 1);
        ShellPeel x = new ShellPeel();
        Checks.tell(x, "complex points 04 size 02;facet dc;facet ab");
        C.due("letters in any row", x.facet(0), 12);
        C.due("the next", x.facet(1), 3);
    }
}
